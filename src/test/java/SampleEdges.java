/** The promises 28 to 39 at their edges, and what holds for all: a method that throws an exception changes nothing. */
final class SampleEdges {
    private static Check check;

    private SampleEdges() {
    }

    /** A call on the graph given. */
    interface Call {
        Object on(ToneGraph x);
    }

    static void all(Check given) {
        check = given;
        promise28();
        promise29();
        promise30();
        promise31();
        whatIsAheadIsPlayedThen();
        lookingAheadChangesNothing();
        promise32();
        promise33();
        promise34();
        promise35();
        promise36();
        promise37();
        promise38();
        promise39();
        refusedCallsChangeNothing();
        refusedCallsOnANewObject();
        readingChangesNothing();
    }

    private static void promise28() {
        ToneGraph x = new ToneGraph();
        EdgesTest.argument("28: samples", 1, 64, x::play);
        check.due("28: 1 and 64 were played, no more", 65, x::time);
        ToneGraph y = new ToneGraph();
        y.begin(0, 100);
        check.due("28: the last one of 1", -1024, () -> y.play(1));
        check.due("28: the last one of 2", -1020, () -> y.play(2));
        check.due("28: the last one of 64", -892, () -> y.play(64));
        check.argument("28: 65", () -> y.play(65));
        check.due("28: time", 67, y::time);
    }

    private static void promise29() {
        ToneGraph x = new ToneGraph();
        check.due("29: the voices are silent", 0, x::step);
        check.due("29: one sample", 1, x::time);
        x.begin(0, 100);
        check.due("29: of the output", -1024, x::step);
        check.due("29: the next one", -1022, x::step);
        check.due("29: time", 3, x::time);
        x.addDelay(60, 0);
        x.connect(0, 1, 100);
        x.setOutput(1);
        for (int i = 0; i < 60; i++) {
            x.step();
        }
        check.due("29: the 61st one of the delay", -1020, x::step);
    }

    private static void promise30() {
        ToneGraph x = new ToneGraph();
        EdgesTest.argument("30: samples", 1, 40, x::ahead);
        check.due("30: nothing is played", 0, x::time);
        x.begin(0, 100);
        check.due("30: the next one", -1024, () -> x.ahead(1));
        check.due("30: the 40th one", -946, () -> x.ahead(40));
        check.due("30: again the next one", -1024, () -> x.ahead(1));
        check.due("30: which is played then", -1024, x::step);
        check.due("30: the 40th one from then on", -944, () -> x.ahead(40));
    }

    private static void promise31() {
        ToneGraph x = new ToneGraph();
        EdgesTest.argument("31: samples", 1, 40, samples -> x.aheadByBlocks(samples, 64));
        EdgesTest.argument("31: size", 1, 64, size -> x.aheadByBlocks(40, size));
        check.argument("31: both", () -> x.aheadByBlocks(41, 65));
        check.due("31: nothing is played", 0, x::time);
        x.begin(0, 100);
        check.due("31: 1 by 1", -1024, () -> x.aheadByBlocks(1, 1));
        check.due("31: 1 by 64", -1024, () -> x.aheadByBlocks(1, 64));
        check.due("31: 40 by 1", -946, () -> x.aheadByBlocks(40, 1));
        check.due("31: 40 by 39", -946, () -> x.aheadByBlocks(40, 39));
        check.due("31: 40 by 40", -946, () -> x.aheadByBlocks(40, 40));
        check.due("31: 40 by 41", -946, () -> x.aheadByBlocks(40, 41));
        check.due("31: 40 by 64", -946, () -> x.aheadByBlocks(40, 64));
        for (int size = 1; size <= 64; size++) {
            ToneGraph y = busy();
            for (int samples = 1; samples <= 40; samples += 13) {
                int some = samples;
                int most = size;
                check.due("31: " + samples + " by " + size, y.ahead(samples), () -> y.aheadByBlocks(some, most));
            }
        }
    }

    /** Looked ahead from each of many samples, by ahead and by blocks: the same as what another graph plays then. */
    private static void whatIsAheadIsPlayedThen() {
        int[] due = new int[140];
        ToneGraph x = busy();
        for (int i = 0; i < due.length; i++) {
            due[i] = x.step();
        }
        ToneGraph y = busy();
        ToneGraph z = busy();
        for (int i = 0; i + 40 <= due.length; i++) {
            int now = i;
            check.due("30: 40 ahead from " + i, due[now + 39], () -> y.ahead(40));
            check.due("30: 1 ahead from " + i, due[now], () -> y.ahead(1));
            check.due("31: 40 ahead from " + i + " by 64", due[now + 39], () -> z.aheadByBlocks(40, 64));
            check.due("31: 23 ahead from " + i + " by 2", due[now + 22], () -> z.aheadByBlocks(23, 2));
            check.due("played then", due[now], y::step);
            check.due("played then", due[now], () -> z.play(1));
        }
    }

    private static void lookingAheadChangesNothing() {
        String due = Told.of(busy());
        ToneGraph x = busy();
        for (int samples = 1; samples <= 40; samples++) {
            x.ahead(samples);
            x.aheadByBlocks(samples, 41 - samples);
            x.isConsistent();
        }
        check.same("30, 31, 39: nothing is played", due, Told.of(x));
    }

    private static void promise32() {
        ToneGraph x = new ToneGraph();
        for (int bad : new int[] {Integer.MIN_VALUE, -1, 64, Integer.MAX_VALUE}) {
            check.argument("32: none played, ago " + bad, () -> x.heard(bad));
        }
        for (int ago = 0; ago < 64; ago++) {
            int some = ago;
            check.none("32: none played, ago " + ago, () -> x.heard(some));
        }
        x.begin(0, 100);
        x.step();
        check.due("32: the first one", -1024, () -> x.heard(0));
        check.none("32: one played, ago 1", () -> x.heard(1));
        x.play(62);
        check.due("32: 63 played, ago 62", -1024, () -> x.heard(62));
        check.none("32: 63 played, ago 63", () -> x.heard(63));
        x.step();
        check.due("32: 64 played, ago 63", -1024, () -> x.heard(63));
        EdgesTest.argument("32: ago", 0, 63, x::heard);
        for (int past = 64; past < 130; past++) {
            int first = -1024 + 2 * (past - 63);
            int last = -1024 + 2 * past;
            x.step();
            check.due("32: one more, ago 63", first, () -> x.heard(63));
            check.due("32: one more, ago 0", last, () -> x.heard(0));
        }
        x.play(64);
        check.due("32: 64 at once, ago 63", -1024 + 2 * 130, () -> x.heard(63));
        check.due("32: 64 at once, ago 0", -1024 + 2 * 193, () -> x.heard(0));
    }

    private static void promise33() {
        ToneGraph x = new ToneGraph();
        EdgesTest.index("33: node of a new object", 0, 0, x::outputOf);
        check.due("33: 0 before the first sample", 0, () -> x.outputOf(0));
        EdgesTest.index("33: node of a full board", 0, 9, Start.full()::outputOf);
        ToneGraph y = Start.steady(40);
        y.addGain(100);
        y.connect(0, 1, 100);
        y.play(64);
        check.due("33: at the latest sample", "40 40", () -> y.outputOf(0) + " " + y.outputOf(1));
        y.addGain(100);
        y.connect(1, 2, 100);
        check.due("33: added since then", 0, () -> y.outputOf(2));
        y.ahead(40);
        check.due("33: looking ahead is not playing", 0, () -> y.outputOf(2));
        y.disconnect(0, 1);
        y.end(0);
        y.setGain(1, 0);
        check.due("33: still at the latest sample", "40 40", () -> y.outputOf(0) + " " + y.outputOf(1));
        y.step();
        check.due("33: then", "0 0 0", () -> y.outputOf(0) + " " + y.outputOf(1) + " " + y.outputOf(2));
    }

    private static void promise34() {
        ToneGraph x = new ToneGraph();
        check.due("34: 0 at first", 0, x::time);
        x.step();
        check.due("34: 1", 1, x::time);
        x.play(64);
        check.due("34: 65", 65, x::time);
        check.argument("34: refused", () -> x.play(0));
        x.ahead(40);
        x.isConsistent();
        check.due("34: still 65", 65, x::time);
    }

    private static void promise35() {
        ToneGraph x = new ToneGraph();
        check.due("35: 0 at first", 0, x::greatest);
        x.play(3);
        check.due("35: 0 of silence", 0, x::greatest);
        x.begin(0, 100);
        x.ahead(40);
        check.due("35: nothing played", 0, x::greatest);
        x.play(64);
        check.due("35: without sign, not the last one", 1024, x::greatest);
        ToneGraph y = Start.loud();
        y.addGain(-100);
        y.connect(7, 8, 100);
        y.setOutput(8);
        check.due("35: the least sample", -32767, y::step);
        check.due("35: without sign", 32767, y::greatest);
        y.setOutput(6);
        y.step();
        check.due("35: it stays", 32767, y::greatest);
    }

    private static void promise36() {
        ToneGraph x = Start.loud();
        check.due("36: 0 at first", 0L, x::energy);
        x.setOutput(6);
        x.step();
        check.due("36: 1", 1L, x::energy);
        x.setOutput(7);
        x.play(2);
        check.due("36: still within an int", 1 + 2 * 1073676289L, x::energy);
        x.step();
        check.due("36: beyond an int", 1 + 3 * 1073676289L, x::energy);
        x.play(64);
        check.due("36: much more", 1 + 67 * 1073676289L, x::energy);
        x.setOutput(0);
        x.step();
        check.due("36: by the node that is the output then", 1 + 67 * 1073676289L + 512 * 512, x::energy);
    }

    private static void promise37() {
        ToneGraph x = Start.steady(3);
        check.arithmetic("37: no sample", x::meanEnergy);
        x.ahead(40);
        check.arithmetic("37: none was played", x::meanEnergy);
        check.argument("37: refused", () -> x.play(0));
        check.arithmetic("37: still none", x::meanEnergy);
        x.step();
        check.due("37: of one", 9.0, x::meanEnergy);
        x.end(0);
        x.play(2);
        check.due("37: of three", 3.0, x::meanEnergy);
        x.play(4);
        check.due("37: of seven", 9.0 / 7.0, x::meanEnergy);
        ToneGraph y = new ToneGraph();
        y.step();
        check.due("37: of silence", 0.0, y::meanEnergy);
    }

    private static void promise38() {
        ToneGraph x = Start.steady(3);
        check.arithmetic("38: no sample", x::quietShare);
        x.ahead(40);
        check.arithmetic("38: none was played", x::quietShare);
        x.step();
        check.due("38: none of one", 0.0f, x::quietShare);
        x.end(0);
        x.step();
        check.due("38: one of two", 0.5f, x::quietShare);
        x.step();
        check.due("38: two of three, as float", 0.6666667f, x::quietShare);
        x.play(64);
        check.due("38: 66 of 67", 66.0f / 67.0f, x::quietShare);
        ToneGraph y = new ToneGraph();
        y.play(64);
        check.due("38: all", 1.0f, y::quietShare);
    }

    private static void promise39() {
        check.due("39: a new object", true, new ToneGraph()::isConsistent);
        check.due("39: a full board", true, Start.full()::isConsistent);
        check.due("39: loud", true, Start.loud()::isConsistent);
        check.due("39: the longest way", true, longestWay()::isConsistent);
        ToneGraph x = busy();
        for (int i = 0; i < 60; i++) {
            check.due("39: busy at " + i, true, x::isConsistent);
            x.play(1 + i % 64);
        }
        x.endAll();
        check.due("39: all released", true, x::isConsistent);
    }

    private static ToneGraph longestWay() {
        ToneGraph x = Start.steady(1000);
        for (int node = 1; node <= 9; node++) {
            x.addGain(200);
        }
        x.connect(0, 9, 100);
        for (int node = 9; node > 1; node--) {
            x.connect(node, node - 1, 100);
        }
        x.setOutput(1);
        return x;
    }

    /** A full board with 4 wires to node 1, circles through delays, and voices in four states. */
    private static ToneGraph busy() {
        ToneGraph x = Start.full();
        x.connect(0, 7, 100);
        x.connect(7, 4, 90);
        x.connect(4, 1, 100);
        x.connect(5, 1, -100);
        x.connect(6, 1, 33);
        x.connect(8, 1, 50);
        x.connect(1, 2, 100);
        x.connect(2, 9, 100);
        x.connect(9, 5, 80);
        x.connect(1, 6, 99);
        x.connect(5, 5, 50);
        x.connect(3, 8, 100);
        x.setOutput(9);
        x.setWave('t');
        x.begin(40, 100);
        x.setEnvelope(3, 20, 500, 60);
        x.begin(47, 80);
        x.setEnvelope(90, 20, 500, 40);
        x.setWave('q');
        x.begin(50, 60);
        x.setEnvelope(1, 90, 700, 25);
        x.begin(59, 40);
        x.play(17);
        x.end(47);
        x.play(2);
        return x;
    }

    private static void unchanged(String want, String what, ToneGraph x, String before, Call call) {
        check.due(what, "throws." + want, () -> call.on(x));
        check.same(what + " changes nothing", before, Told.of(x));
    }

    private static void refused(String want, String what, Call call) {
        unchanged(want, what, busy(), Told.of(busy()), call);
    }

    /** A method that throws an exception changes nothing. */
    private static void refusedCallsChangeNothing() {
        String argument = "IllegalArgumentException";
        String state = "IllegalStateException";
        String index = "IndexOutOfBoundsException";
        String none = "NoSuchElementException";
        String unsupported = "UnsupportedOperationException";
        refused(argument, "addGain(201)", x -> x.addGain(201));
        refused(state, "addGain(0)", x -> x.addGain(0));
        refused(argument, "addDelay(0, 0)", x -> x.addDelay(0, 0));
        refused(state, "addDelay(1, 0)", x -> x.addDelay(1, 0));
        refused(argument, "addFilter(0, 0, 65)", x -> x.addFilter(0, 0, 65));
        refused(state, "addFilter(0, 0, 0)", x -> x.addFilter(0, 0, 0));
        refused(argument, "addBus(-1)", x -> x.addBus(-1));
        refused(state, "addBus(0)", x -> x.addBus(0));
        refused(index, "connect(0, 10, 1)", x -> x.connect(0, 10, 1));
        refused(argument, "connect(0, 9, 0)", x -> x.connect(0, 9, 0));
        refused(state, "connect(0, 1, 1)", x -> x.connect(0, 1, 1));
        refused(state, "connect(0, 7, 1)", x -> x.connect(0, 7, 1));
        refused(unsupported, "connect(9, 0, 1)", x -> x.connect(9, 0, 1));
        refused(unsupported, "connect(9, 2, 1)", x -> x.connect(9, 2, 1));
        refused(index, "disconnect(10, 0)", x -> x.disconnect(10, 0));
        refused(none, "disconnect(0, 1)", x -> x.disconnect(0, 1));
        refused(index, "setGain(10, 0)", x -> x.setGain(10, 0));
        refused(unsupported, "setGain(4, 0)", x -> x.setGain(4, 0));
        refused(argument, "setGain(1, -201)", x -> x.setGain(1, -201));
        refused(index, "setOutput(10)", x -> x.setOutput(10));
        refused(argument, "setWave('w')", x -> x.setWave('w'));
        refused(argument, "setEnvelope(9, 9, 9, 201)", x -> x.setEnvelope(9, 9, 9, 201));
        refused(argument, "begin(60, 1)", x -> x.begin(60, 1));
        refused(argument, "begin(0, 101)", x -> x.begin(0, 101));
        refused(argument, "end(60)", x -> x.end(60));
        refused(none, "end(47), which is released", x -> x.end(47));
        refused(argument, "play(65)", x -> x.play(65));
        refused(argument, "ahead(41)", x -> x.ahead(41));
        refused(argument, "aheadByBlocks(41, 1)", x -> x.aheadByBlocks(41, 1));
        refused(argument, "aheadByBlocks(1, 65)", x -> x.aheadByBlocks(1, 65));
        refused(argument, "heard(64)", x -> x.heard(64));
        refused(none, "heard(63)", x -> x.heard(63));
    }

    /** And so do those that refuse only to read, on an object where nothing has been done. */
    private static void refusedCallsOnANewObject() {
        String before = Told.of(new ToneGraph());
        String[] due = {"IndexOutOfBoundsException", "NoSuchElementException", "IllegalStateException", "ArithmeticException"};
        unchanged(due[0], "kindOf(1)", new ToneGraph(), before, x -> x.kindOf(1));
        unchanged(due[0], "wires(1)", new ToneGraph(), before, x -> x.wires(1));
        unchanged(due[0], "wireFrom(1, 0)", new ToneGraph(), before, x -> x.wireFrom(1, 0));
        unchanged(due[1], "wireFrom(0, 0)", new ToneGraph(), before, x -> x.wireFrom(0, 0));
        unchanged(due[0], "wirePercent(1, 0)", new ToneGraph(), before, x -> x.wirePercent(1, 0));
        unchanged(due[1], "wirePercent(0, 0)", new ToneGraph(), before, x -> x.wirePercent(0, 0));
        unchanged(due[0], "nodeAt(1)", new ToneGraph(), before, x -> x.nodeAt(1));
        unchanged(due[0], "stateOf(4)", new ToneGraph(), before, x -> x.stateOf(4));
        unchanged(due[0], "keyOf(4)", new ToneGraph(), before, x -> x.keyOf(4));
        unchanged(due[2], "keyOf(0)", new ToneGraph(), before, x -> x.keyOf(0));
        unchanged(due[0], "levelOf(4)", new ToneGraph(), before, x -> x.levelOf(4));
        unchanged(due[0], "phaseOf(4)", new ToneGraph(), before, x -> x.phaseOf(4));
        unchanged(due[2], "phaseOf(0)", new ToneGraph(), before, x -> x.phaseOf(0));
        unchanged(due[1], "end(0)", new ToneGraph(), before, x -> x.end(0));
        unchanged(due[1], "disconnect(0, 0)", new ToneGraph(), before, x -> x.disconnect(0, 0));
        unchanged(due[1], "heard(0)", new ToneGraph(), before, x -> x.heard(0));
        unchanged(due[0], "outputOf(1)", new ToneGraph(), before, x -> x.outputOf(1));
        unchanged(due[3], "meanEnergy()", new ToneGraph(), before, x -> x.meanEnergy());
        unchanged(due[3], "quietShare()", new ToneGraph(), before, x -> x.quietShare());
    }

    /** What only answers can be asked twice. */
    private static void readingChangesNothing() {
        ToneGraph x = busy();
        for (int i = 0; i < 3; i++) {
            check.due("reading", "10 4 5 0", () -> x.nodes() + " " + x.wires(1) + " " + x.longestBlock() + " " + x.stolen());
            check.due("reading voices", "4 40 g", () -> x.sounding() + " " + x.keyOf(0) + " " + x.kindOf(1));
        }
        check.same("reading changes nothing", Told.of(busy()), Told.of(x));
    }
}
