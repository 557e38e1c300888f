/** Promises 1 to 16: a new object, nodes and wires, by answers worked out by hand. */
final class NodesTest {
    private static final Check CHECK = new Check();

    public static void main(String[] args) {
        newObject();
        addGain();
        addDelay();
        addFilter();
        addBus();
        fullBoard();
        connect();
        circles();
        disconnect();
        setGain();
        setOutput();
        readWires();
        order();
        longestBlock();
        nothingChangesByThrowing();
        CHECK.close("NodesTest");
    }

    private static void newObject() {
        ToneGraph x = new ToneGraph();
        CHECK.due("new: nodes", 1, x::nodes);
        CHECK.due("new: kind", 'v', () -> x.kindOf(0));
        CHECK.due("new: wires", 0, () -> x.wires(0));
        CHECK.due("new: order", 0, () -> x.nodeAt(0));
        CHECK.due("new: sounding", 0, x::sounding);
        CHECK.due("new: wave", 's', () -> x.setWave('q'));
        CHECK.due("new: sustain", 1000, () -> x.setEnvelope(1, 2, 3, 4));
        CHECK.due("new: output", 0, () -> x.setOutput(0));
        CHECK.due("new: time", 0, x::time);
        ToneGraph y = new ToneGraph();
        y.begin(0, 100);
        CHECK.due("new: attack 0 and decay 0", 's', () -> y.stateOf(0));
        CHECK.due("new: the voices are the output, the wave is s", -1024, y::step);
        y.end(0);
        CHECK.due("new: release 0", 'f', () -> y.stateOf(0));
    }

    /** A graph whose node 0 gives -1000 or 1000 times the velocity, divided by 100, for many samples. */
    static ToneGraph square(int velocity) {
        ToneGraph x = new ToneGraph();
        x.setWave('q');
        x.begin(0, velocity);
        return x;
    }

    private static void addGain() {
        ToneGraph x = square(100);
        CHECK.argument("gain 201", () -> x.addGain(201));
        CHECK.argument("gain -201", () -> x.addGain(-201));
        CHECK.argument("gain of the greatest number", () -> x.addGain(Integer.MAX_VALUE));
        CHECK.due("gain 200", 1, () -> x.addGain(200));
        CHECK.due("gain -200", 2, () -> x.addGain(-200));
        CHECK.due("gain 0", 3, () -> x.addGain(0));
        CHECK.due("gain 33", 4, () -> x.addGain(33));
        CHECK.due("gain: kind", 'g', () -> x.kindOf(4));
        for (int node = 1; node <= 4; node++) {
            x.connect(0, node, -11);
        }
        x.step();
        CHECK.due("200 percent of -110", -220, () -> x.outputOf(1));
        CHECK.due("-200 percent of -110", 220, () -> x.outputOf(2));
        CHECK.due("0 percent of -110", 0, () -> x.outputOf(3));
        CHECK.due("33 percent of -110, towards 0", -36, () -> x.outputOf(4));
    }

    private static void addDelay() {
        ToneGraph x = square(100);
        CHECK.argument("delay 0", () -> x.addDelay(0, 0));
        CHECK.argument("delay 61", () -> x.addDelay(61, 0));
        CHECK.argument("feedback 96", () -> x.addDelay(1, 96));
        CHECK.argument("feedback -96", () -> x.addDelay(1, -96));
        CHECK.due("delay 2", 1, () -> x.addDelay(2, -95));
        CHECK.due("delay 60", 2, () -> x.addDelay(60, 95));
        CHECK.due("delay: kind", 'd', () -> x.kindOf(1));
        x.connect(0, 1, 1);
        x.connect(0, 2, 100);
        int[] due = {0, 0, 10, 10, 1, 1, 10, 10, 1};
        for (int sample = 0; sample < due.length; sample++) {
            x.step();
            CHECK.due("delay 2 at sample " + sample, due[sample], () -> x.outputOf(1));
        }
        x.play(51);
        CHECK.due("delay 60 at sample 59", 0, () -> x.outputOf(2));
        x.step();
        CHECK.due("delay 60 at sample 60", 1000, () -> x.outputOf(2));
        x.play(60);
        CHECK.due("delay 60 at sample 120", 1950, () -> x.outputOf(2));
        cutDelay();
    }

    private static void cutDelay() {
        ToneGraph x = square(100);
        for (int i = 0; i < 6; i++) {
            x.addGain(200);
            x.connect(i, i + 1, 100);
        }
        x.addDelay(1, 95);
        x.connect(6, 7, 100);
        x.play(1);
        CHECK.due("6 gains are cut", 32767, () -> x.outputOf(6));
        x.play(2);
        CHECK.due("what a delay keeps is cut", 32767, () -> x.outputOf(7));
        CHECK.due("disconnect", 100, () -> x.disconnect(6, 7));
        x.play(1);
        CHECK.due("the last one kept is still cut", 32767, () -> x.outputOf(7));
        x.play(1);
        CHECK.due("then the echo alone is kept", 31128, () -> x.outputOf(7));
        x.setGain(6, -200);
        x.connect(6, 7, 100);
        x.play(4);
        CHECK.due("cut at the lower end", -32767, () -> x.outputOf(7));
    }

    private static void addFilter() {
        ToneGraph x = square(100);
        for (int bad = -65; bad <= 65; bad += 130) {
            int number = bad;
            CHECK.argument("filter a " + bad, () -> x.addFilter(number, 0, 0));
            CHECK.argument("filter b " + bad, () -> x.addFilter(0, number, 0));
            CHECK.argument("filter c " + bad, () -> x.addFilter(0, 0, number));
        }
        CHECK.due("filter 64", 1, () -> x.addFilter(64, -64, 64));
        CHECK.due("filter -64", 2, () -> x.addFilter(-64, 64, -64));
        CHECK.due("filter of three", 3, () -> x.addFilter(7, 5, -3));
        CHECK.due("filter: kind", 'f', () -> x.kindOf(3));
        for (int node = 1; node <= 3; node++) {
            x.connect(0, node, 10);
        }
        int[][] due = {{100, 100, 100}, {-100, 100, -100}, {10, 18, 17}};
        for (int sample = 0; sample < 3; sample++) {
            x.step();
            for (int node = 1; node <= 3; node++) {
                int number = node;
                CHECK.due("filter " + node + " at sample " + sample, due[node - 1][sample], () -> x.outputOf(number));
            }
        }
        CHECK.due("all inputs away", 10, () -> x.disconnect(0, 3));
        x.step();
        CHECK.due("the input before is what it was before", 7, () -> x.outputOf(3));
        cutFilter();
    }

    /** The output before is the cut one, while the input before is not cut. */
    private static void cutFilter() {
        ToneGraph x = square(100);
        for (int i = 0; i < 6; i++) {
            x.addGain(200);
            x.connect(i, i + 1, 100);
        }
        x.addFilter(64, 0, 32);
        x.addFilter(0, 32, 0);
        for (int node = 7; node <= 8; node++) {
            x.connect(6, node, 100);
            x.connect(5, node, 100);
        }
        x.step();
        CHECK.due("32767 and 32000", 32767, () -> x.outputOf(7));
        x.disconnect(6, 7);
        x.disconnect(5, 7);
        x.disconnect(6, 8);
        x.disconnect(5, 8);
        x.step();
        CHECK.due("half of the cut output before", 16383, () -> x.outputOf(7));
        CHECK.due("half of 64767, the input before, which is not cut", 32383, () -> x.outputOf(8));
    }

    private static void addBus() {
        ToneGraph x = square(100);
        CHECK.argument("bus -1", () -> x.addBus(-1));
        CHECK.argument("bus 32768", () -> x.addBus(32768));
        CHECK.due("bus 0", 1, () -> x.addBus(0));
        CHECK.due("bus 32767", 2, () -> x.addBus(32767));
        CHECK.due("bus 100", 3, () -> x.addBus(100));
        CHECK.due("bus 110", 4, () -> x.addBus(110));
        CHECK.due("bus 109", 5, () -> x.addBus(109));
        CHECK.due("bus: kind", 'b', () -> x.kindOf(1));
        for (int node = 1; node <= 5; node++) {
            x.connect(0, node, -11);
        }
        x.step();
        CHECK.due("-110 beyond 0", -27, () -> x.outputOf(1));
        CHECK.due("-110 within 32767", -110, () -> x.outputOf(2));
        CHECK.due("-110 beyond 100", -102, () -> x.outputOf(3));
        CHECK.due("-110 within 110", -110, () -> x.outputOf(4));
        CHECK.due("-110 beyond 109", -109, () -> x.outputOf(5));
        CHECK.due("disconnect", -11, () -> x.disconnect(0, 3));
        CHECK.due("connect", 1, () -> x.connect(0, 3, 11));
        x.step();
        CHECK.due("110 beyond 100", 102, () -> x.outputOf(3));
    }

    private static void fullBoard() {
        ToneGraph x = new ToneGraph();
        for (int node = 1; node <= 9; node++) {
            int number = node;
            CHECK.due("node " + node, number, () -> x.addBus(number));
        }
        CHECK.due("10 nodes", 10, x::nodes);
        CHECK.state("an 11th gain", () -> x.addGain(0));
        CHECK.state("an 11th delay", () -> x.addDelay(1, 0));
        CHECK.state("an 11th filter", () -> x.addFilter(0, 0, 0));
        CHECK.state("an 11th bus", () -> x.addBus(0));
        CHECK.argument("an 11th gain that is wrong too", () -> x.addGain(201));
        CHECK.argument("an 11th delay that is wrong too", () -> x.addDelay(0, 0));
        CHECK.argument("an 11th filter that is wrong too", () -> x.addFilter(0, 0, 65));
        CHECK.argument("an 11th bus that is wrong too", () -> x.addBus(-1));
        CHECK.due("still 10 nodes", 10, x::nodes);
        CHECK.index("no node 10", () -> x.kindOf(10));
        CHECK.due("node 9", 'b', () -> x.kindOf(9));
    }

    private static void connect() {
        ToneGraph x = new ToneGraph();
        for (int i = 0; i < 6; i++) {
            x.addGain(100);
        }
        CHECK.index("from -1", () -> x.connect(-1, 1, 50));
        CHECK.index("from 7", () -> x.connect(7, 1, 50));
        CHECK.index("to -1", () -> x.connect(1, -1, 50));
        CHECK.index("to 7, with 0 percent", () -> x.connect(1, 7, 0));
        CHECK.argument("0 percent", () -> x.connect(0, 1, 0));
        CHECK.argument("101 percent", () -> x.connect(0, 1, 101));
        CHECK.argument("-101 percent", () -> x.connect(0, 1, -101));
        CHECK.argument("0 percent to the voices", () -> x.connect(1, 0, 0));
        CHECK.unsupported("to the voices", () -> x.connect(1, 0, 10));
        CHECK.unsupported("from the voices to themselves", () -> x.connect(0, 0, 10));
        CHECK.due("100 percent", 1, () -> x.connect(0, 6, 100));
        CHECK.state("there is one", () -> x.connect(0, 6, -100));
        CHECK.argument("there is one, 0 percent", () -> x.connect(0, 6, 0));
        CHECK.due("-100 percent", 2, () -> x.connect(1, 6, -100));
        CHECK.due("a third", 3, () -> x.connect(2, 6, 1));
        CHECK.due("a fourth", 4, () -> x.connect(3, 6, 1));
        CHECK.state("a fifth", () -> x.connect(4, 6, 1));
        CHECK.state("a fifth that is a circle too", () -> x.connect(6, 6, 1));
        CHECK.due("4 wires", 4, () -> x.wires(6));
        CHECK.due("a node may feed many", 1, () -> x.connect(0, 5, 1));
        eachWireIsRounded();
    }

    private static void eachWireIsRounded() {
        ToneGraph x = square(1);
        x.addGain(100);
        x.addGain(100);
        x.addGain(100);
        x.connect(0, 1, 100);
        x.connect(0, 2, 100);
        x.connect(0, 3, 19);
        x.connect(1, 3, 19);
        x.connect(2, 3, -19);
        x.step();
        CHECK.due("10 times 19 percent is 1, each", 1, () -> x.outputOf(3));
        x.disconnect(1, 3);
        x.disconnect(0, 3);
        x.step();
        CHECK.due("-1.9 is -1", -1, () -> x.outputOf(3));
    }

    private static void circles() {
        ToneGraph x = new ToneGraph();
        x.addGain(100);
        x.addFilter(1, 1, 1);
        x.addBus(5);
        x.addDelay(3, 0);
        x.addGain(50);
        CHECK.unsupported("a gain to itself", () -> x.connect(1, 1, 10));
        CHECK.unsupported("a filter to itself", () -> x.connect(2, 2, 10));
        CHECK.due("a delay to itself", 1, () -> x.connect(4, 4, 10));
        CHECK.due("1 to 2", 1, () -> x.connect(1, 2, 10));
        CHECK.unsupported("2 to 1", () -> x.connect(2, 1, 10));
        CHECK.due("2 to 3", 1, () -> x.connect(2, 3, 10));
        CHECK.unsupported("3 to 1", () -> x.connect(3, 1, 10));
        CHECK.due("3 to the delay", 2, () -> x.connect(3, 4, 10));
        CHECK.due("the delay to 1: a circle with a delay", 1, () -> x.connect(4, 1, 10));
        CHECK.due("1 to 3 is no circle", 2, () -> x.connect(1, 3, 10));
        CHECK.due("3 to 5", 1, () -> x.connect(3, 5, 10));
        CHECK.unsupported("5 to 1: one circle has no delay", () -> x.connect(5, 1, 10));
        x.disconnect(2, 3);
        CHECK.unsupported("5 to 1: the way by 1 to 3 is left", () -> x.connect(5, 1, 10));
        x.disconnect(1, 3);
        CHECK.due("5 to 1", 2, () -> x.connect(5, 1, 10));
        CHECK.due("3, 5, 1, 2 in the order", "0 3 4 5 1 2", () -> orderOf(x));
        CHECK.unsupported("2 to 3 closes it at the other end", () -> x.connect(2, 3, 10));
        CHECK.due("consistent", true, x::isConsistent);
        ToneGraph y = new ToneGraph();
        for (int i = 0; i < 9; i++) {
            y.addGain(100);
        }
        for (int i = 9; i > 1; i--) {
            y.connect(i, i - 1, 100);
        }
        CHECK.unsupported("the longest circle", () -> y.connect(1, 9, 100));
        CHECK.due("the longest way", "0 9 8 7 6 5 4 3 2 1", () -> orderOf(y));
    }

    private static String orderOf(ToneGraph x) {
        StringBuilder order = new StringBuilder();
        for (int place = 0; place < x.nodes(); place++) {
            order.append(place == 0 ? "" : " ").append(x.nodeAt(place));
        }
        return order.toString();
    }

    private static void disconnect() {
        ToneGraph x = new ToneGraph();
        for (int i = 0; i < 5; i++) {
            x.addGain(100);
        }
        CHECK.index("from -1", () -> x.disconnect(-1, 0));
        CHECK.index("from 6", () -> x.disconnect(6, 0));
        CHECK.index("to 6", () -> x.disconnect(0, 6));
        CHECK.index("to -1", () -> x.disconnect(0, -1));
        CHECK.none("no wire", () -> x.disconnect(0, 5));
        x.connect(0, 5, 1);
        x.connect(1, 5, -2);
        x.connect(2, 5, 3);
        x.connect(3, 5, 4);
        CHECK.none("the other way round", () -> x.disconnect(5, 1));
        CHECK.due("the second one", -2, () -> x.disconnect(1, 5));
        CHECK.due("3 are left", 3, () -> x.wires(5));
        CHECK.due("the first stays", 0, () -> x.wireFrom(5, 0));
        CHECK.due("the third is the second now", 2, () -> x.wireFrom(5, 1));
        CHECK.due("with its percentage", 3, () -> x.wirePercent(5, 1));
        CHECK.due("the fourth is the third now", 4, () -> x.wirePercent(5, 2));
        CHECK.none("no fourth", () -> x.wireFrom(5, 3));
        CHECK.none("it is gone", () -> x.disconnect(1, 5));
        CHECK.due("back at the end", 4, () -> x.connect(1, 5, 7));
        CHECK.due("at the end", 1, () -> x.wireFrom(5, 3));
        CHECK.due("at the end, its percentage", 7, () -> x.wirePercent(5, 3));
        x.connect(5, 4, 9);
        CHECK.due("5 ahead of 4", "0 1 2 3 5 4", () -> orderOf(x));
        CHECK.due("5 to 4", 9, () -> x.disconnect(5, 4));
        CHECK.due("the order by numbers again", "0 1 2 3 4 5", () -> orderOf(x));
    }

    private static void setGain() {
        ToneGraph x = square(100);
        x.addGain(50);
        x.addDelay(1, 0);
        x.addFilter(1, 1, 1);
        x.addBus(1);
        x.connect(0, 1, 100);
        CHECK.index("node -1", () -> x.setGain(-1, 300));
        CHECK.index("node 5", () -> x.setGain(5, 0));
        CHECK.unsupported("the voices", () -> x.setGain(0, 300));
        CHECK.unsupported("a delay", () -> x.setGain(2, 0));
        CHECK.unsupported("a filter", () -> x.setGain(3, 0));
        CHECK.unsupported("a bus", () -> x.setGain(4, -201));
        CHECK.argument("201", () -> x.setGain(1, 201));
        CHECK.argument("-201", () -> x.setGain(1, -201));
        CHECK.due("200", 50, () -> x.setGain(1, 200));
        x.step();
        CHECK.due("200 percent", 2000, () -> x.outputOf(1));
        CHECK.due("-200", 200, () -> x.setGain(1, -200));
        x.step();
        CHECK.due("-200 percent", -2000, () -> x.outputOf(1));
        CHECK.due("0", -200, () -> x.setGain(1, 0));
    }

    private static void setOutput() {
        ToneGraph x = square(100);
        CHECK.index("-1", () -> x.setOutput(-1));
        CHECK.index("1", () -> x.setOutput(1));
        x.addGain(-50);
        x.connect(0, 1, 100);
        CHECK.due("the voices", 1000, x::step);
        CHECK.due("the gain now", 0, () -> x.setOutput(1));
        CHECK.due("what was heard stays", 1000, () -> x.heard(0));
        CHECK.due("ahead by the gain", -500, () -> x.ahead(1));
        CHECK.due("the gain", -500, () -> x.play(2));
        CHECK.due("the voices again", 1, () -> x.setOutput(0));
        CHECK.due("the voices before", 0, () -> x.setOutput(0));
        CHECK.due("the voices again", 1000, x::step);
        CHECK.due("heard by the gain", -500, () -> x.heard(1));
    }

    private static void readWires() {
        ToneGraph x = new ToneGraph();
        x.addGain(1);
        x.addGain(2);
        x.connect(1, 2, -100);
        x.connect(0, 2, 99);
        CHECK.index("kindOf -1", () -> x.kindOf(-1));
        CHECK.index("kindOf 3", () -> x.kindOf(3));
        CHECK.index("wires -1", () -> x.wires(-1));
        CHECK.index("wires 3", () -> x.wires(3));
        CHECK.due("wires 1", 0, () -> x.wires(1));
        CHECK.due("wires 2", 2, () -> x.wires(2));
        CHECK.index("wireFrom -1", () -> x.wireFrom(-1, -1));
        CHECK.index("wireFrom 3", () -> x.wireFrom(3, 0));
        CHECK.none("wireFrom 2 -1", () -> x.wireFrom(2, -1));
        CHECK.none("wireFrom 2 2", () -> x.wireFrom(2, 2));
        CHECK.none("wireFrom 2 4", () -> x.wireFrom(2, 4));
        CHECK.due("wireFrom 2 0", 1, () -> x.wireFrom(2, 0));
        CHECK.due("wireFrom 2 1", 0, () -> x.wireFrom(2, 1));
        CHECK.index("wirePercent -1", () -> x.wirePercent(-1, 9));
        CHECK.index("wirePercent 3", () -> x.wirePercent(3, 0));
        CHECK.none("wirePercent 2 -1", () -> x.wirePercent(2, -1));
        CHECK.none("wirePercent 0 0", () -> x.wirePercent(0, 0));
        CHECK.none("wirePercent 2 2", () -> x.wirePercent(2, 2));
        CHECK.due("wirePercent 2 0", -100, () -> x.wirePercent(2, 0));
        CHECK.due("wirePercent 2 1", 99, () -> x.wirePercent(2, 1));
    }

    private static void order() {
        ToneGraph x = new ToneGraph();
        x.addGain(1);
        x.addGain(1);
        x.addDelay(5, 0);
        x.addGain(1);
        CHECK.index("place -1", () -> x.nodeAt(-1));
        CHECK.index("place 5", () -> x.nodeAt(5));
        CHECK.due("by number", "0 1 2 3 4", () -> orderOf(x));
        x.connect(4, 1, 1);
        CHECK.due("1 behind 4", "0 2 3 4 1", () -> orderOf(x));
        x.connect(3, 2, 1);
        CHECK.due("2 behind the delay", "0 3 2 4 1", () -> orderOf(x));
        x.connect(1, 3, 1);
        CHECK.due("a delay waits for none", "0 3 2 4 1", () -> orderOf(x));
        x.connect(2, 4, 1);
        CHECK.due("a chain", "0 3 2 4 1", () -> orderOf(x));
        x.disconnect(4, 1);
        CHECK.due("step by step, the lowest one first", "0 1 3 2 4", () -> orderOf(x));
        x.addGain(1);
        CHECK.due("one more", "0 1 3 2 4 5", () -> orderOf(x));
    }

    private static void longestBlock() {
        ToneGraph x = new ToneGraph();
        CHECK.due("without delays", 64, x::longestBlock);
        x.addGain(1);
        CHECK.due("a gain is no delay", 64, x::longestBlock);
        x.addDelay(60, 0);
        CHECK.due("60", 60, x::longestBlock);
        x.addDelay(3, 0);
        CHECK.due("3", 3, x::longestBlock);
        x.addDelay(4, 0);
        CHECK.due("still 3", 3, x::longestBlock);
        x.addDelay(1, 0);
        CHECK.due("1", 1, x::longestBlock);
    }

    private static void nothingChangesByThrowing() {
        ToneGraph x = square(100);
        x.addGain(100);
        x.connect(0, 1, 100);
        CHECK.unsupported("circle", () -> x.connect(1, 1, 10));
        CHECK.state("twice", () -> x.connect(0, 1, 10));
        CHECK.argument("filter", () -> x.addFilter(1, 2, 65));
        CHECK.argument("gain", () -> x.setGain(1, 999));
        CHECK.due("nodes", 2, x::nodes);
        CHECK.due("wires", 1, () -> x.wires(1));
        CHECK.due("percent", 100, () -> x.wirePercent(1, 0));
        CHECK.due("gain before", 100, () -> x.setGain(1, 100));
    }
}
