/** The terms from "Nodes" to "Buses", and the clarifications. */
final class NodeTerms {
    private static Check check;

    private NodeTerms() {
    }

    static void all(Check given) {
        check = given;
        atMostTenNodes();
        outputsAreCut();
        gainsAreCut();
        delaysAreCut();
        filtersAreCut();
        busesAreCut();
        percentages();
        atMostFourWires();
        noWireToTheVoices();
        inputsAreRounded();
        inputWithoutWires();
        inputsAreNotCut();
        circlesOfOne();
        longestCircle();
        circlesThroughDelays();
        orderWithoutWires();
        orderOfDelays();
        orderStepByStep();
        gainsAreRounded();
        delaysAtFirst();
        delaysGoRound();
        echoesAreRounded();
        theSumOfADelayIsCut();
        filtersAreRounded();
        aheadOfTheFirstSample();
        aroundTheLimit();
        theLeastAndTheGreatestLimit();
    }

    private static int played(ToneGraph x, int node, int samples) {
        x.play(samples);
        return x.outputOf(node);
    }

    /** At most 10 nodes exist, numbered from 0 in the order in which they were added. */
    private static void atMostTenNodes() {
        ToneGraph x = new ToneGraph();
        check.due("the voices are there from the beginning", "1 v", () -> x.nodes() + " " + x.kindOf(0));
        check.due("the first added is 1", 1, () -> x.addDelay(1, 0));
        check.due("then 2", 2, () -> x.addBus(0));
        check.due("then 3", 3, () -> x.addGain(0));
        check.due("then 4", 4, () -> x.addFilter(0, 0, 0));
        for (int node = 5; node <= 9; node++) {
            int number = node;
            check.due("then " + node, number, () -> x.addGain(number));
        }
        check.due("full", 10, x::nodes);
        for (int i = 0; i < 2; i++) {
            check.state("no 11th gain", () -> x.addGain(1));
            check.state("no 11th delay", () -> x.addDelay(1, 1));
            check.state("no 11th filter", () -> x.addFilter(1, 1, 1));
            check.state("no 11th bus", () -> x.addBus(1));
        }
        check.due("still full", 10, x::nodes);
        check.due("the order is full", 9, () -> x.nodeAt(9));
        check.due("the last one works", 9, () -> x.setGain(9, 3));
    }

    /** A greater number becomes 32767, and a lesser one -32767: each kind, 1 and 2 beyond and just within. */
    private static void outputsAreCut() {
        ToneGraph x = Start.loud();
        x.play(1);
        int[] due = {512, 1024, 2048, 4096, 8192, 16384, 1, 32767};
        for (int node = 0; node < due.length; node++) {
            int number = node;
            check.due("output of " + node, due[node], () -> x.outputOf(number));
        }
        x.setOutput(7);
        check.due("the output of the graph is cut", 32767, x::step);
        check.due("it is heard as it was cut", 32767, () -> x.heard(0));
        check.due("and the greatest one", 32767, x::greatest);
    }

    private static void gainsAreCut() {
        ToneGraph x = Start.loud();
        x.addGain(200);
        x.addGain(200);
        x.connect(5, 8, -100);
        x.connect(5, 9, 100);
        x.connect(6, 9, -100);
        check.due("a gain: -32768 becomes -32767", -32767, () -> played(x, 8, 1));
        check.due("a gain: 32766 stays", 32766, () -> x.outputOf(9));
        x.setGain(8, -200);
        x.setGain(9, -200);
        check.due("a gain: 32768 becomes 32767", 32767, () -> played(x, 8, 1));
        check.due("a gain: -32766 stays", -32766, () -> x.outputOf(9));
    }

    /** The inputs of the nodes 8 and 9 are 32768 and -32768, or 32766 and -32766 when the sign is -1. */
    private static void wireTwo(ToneGraph x, int sign) {
        x.connect(7, 8, 100);
        x.connect(6, 8, 100 * sign);
        x.connect(7, 9, -100);
        x.connect(6, 9, -100 * sign);
    }

    private static void delaysAreCut() {
        ToneGraph x = Start.loud();
        x.addDelay(1, 0);
        x.addDelay(1, 0);
        wireTwo(x, 1);
        check.due("a delay: 32768 is kept as 32767", 32767, () -> played(x, 8, 2));
        check.due("a delay: -32768 is kept as -32767", -32767, () -> x.outputOf(9));
        ToneGraph y = Start.loud();
        y.addDelay(1, 0);
        y.addDelay(1, 0);
        wireTwo(y, -1);
        check.due("a delay: 32766 stays", 32766, () -> played(y, 8, 2));
        check.due("a delay: -32766 stays", -32766, () -> y.outputOf(9));
    }

    private static void filtersAreCut() {
        ToneGraph x = Start.loud();
        x.addFilter(64, 0, 0);
        x.addFilter(64, 0, 0);
        wireTwo(x, 1);
        check.due("a filter: 32768 becomes 32767", 32767, () -> played(x, 8, 1));
        check.due("a filter: -32768 becomes -32767", -32767, () -> x.outputOf(9));
        ToneGraph y = Start.loud();
        y.addFilter(64, 0, 0);
        y.addFilter(-64, 0, 0);
        wireTwo(y, -1);
        check.due("a filter: 32766 stays", 32766, () -> played(y, 8, 1));
        check.due("a filter: -64 times -32766", 32766, () -> y.outputOf(9));
    }

    /** 32767 and 2 percent of 512 are 32777: 11 beyond the limit, and a rest of 2. */
    private static void busesAreCut() {
        ToneGraph x = Start.loud();
        x.addBus(32766);
        x.addBus(32766);
        x.connect(7, 8, 100);
        x.connect(0, 8, 2);
        x.connect(7, 9, -100);
        x.connect(0, 9, -2);
        check.due("a bus: 32768 becomes 32767", 32767, () -> played(x, 8, 1));
        check.due("a bus: -32768 becomes -32767", -32767, () -> x.outputOf(9));
        ToneGraph y = Start.loud();
        y.addBus(32764);
        y.addBus(32764);
        wireTwo(y, 1);
        y.connect(0, 8, 1);
        y.connect(0, 9, -1);
        check.due("a bus: 9 beyond 32764 is 32766, and stays", 32766, () -> played(y, 8, 1));
        check.due("a bus: the same below 0", -32766, () -> y.outputOf(9));
    }

    /** A wire has a percentage from -100 to 100 that is not 0. */
    private static void percentages() {
        ToneGraph x = new ToneGraph();
        x.addGain(100);
        for (int bad : new int[] {Integer.MIN_VALUE, -101, 0, 101, Integer.MAX_VALUE}) {
            check.argument(bad + " percent", () -> x.connect(0, 1, bad));
            check.due("no wire", 0, () -> x.wires(1));
        }
        for (int good : new int[] {-100, -1, 1, 100}) {
            check.due(good + " percent", 1, () -> x.connect(0, 1, good));
            check.due("its percentage", good, () -> x.wirePercent(1, 0));
            check.due("away again", good, () -> x.disconnect(0, 1));
        }
    }

    /** A node has at most 4 wires that lead to it; how many lead away from it is not bounded. */
    private static void atMostFourWires() {
        for (int full = 6; full <= 9; full++) {
            ToneGraph x = new ToneGraph();
            for (int i = 0; i < 5; i++) {
                x.addGain(100);
            }
            x.addGain(1);
            x.addDelay(1, 0);
            x.addFilter(1, 0, 0);
            x.addBus(1);
            int to = full;
            for (int from = 0; from < 4; from++) {
                int number = from;
                check.due("wires to " + to, from + 1, () -> x.connect(number, to, 50));
            }
            check.state("a fifth wire to " + to, () -> x.connect(4, to, 50));
            check.due("still 4", 4, () -> x.wires(to));
            check.due("the first one stays", "0 50", () -> x.wireFrom(to, 0) + " " + x.wirePercent(to, 0));
            check.due("one away", 50, () -> x.disconnect(2, to));
            check.due("there is room for one", 4, () -> x.connect(4, to, 50));
            check.state("and for no more", () -> x.connect(5, to, 50));
        }
        ToneGraph y = Start.full();
        for (int to = 1; to <= 9; to++) {
            int number = to;
            check.due("a wire from 0 to " + to, 1, () -> y.connect(0, number, 1));
        }
    }

    private static void noWireToTheVoices() {
        ToneGraph x = Start.full();
        for (int from = 0; from <= 9; from++) {
            int number = from;
            check.unsupported("a wire to the voices from " + from, () -> x.connect(number, 0, 100));
            check.none("there is none", () -> x.disconnect(number, 0));
        }
        check.due("the voices have no wires", 0, () -> x.wires(0));
        check.none("not a first one", () -> x.wireFrom(0, 0));
    }

    /** Divided by 100 and rounded towards 0; for each wire by itself. */
    private static void inputsAreRounded() {
        int[][] due = {{99, 1, 0}, {100, 1, 1}, {199, 1, 1}, {199, -1, -1}, {99, -1, 0}, {1, 99, 0}, {1, -99, 0}, {1, 100, 1},
            {1, -100, -1}, {1000, -100, -1000}};
        for (int[] each : due) {
            ToneGraph x = Start.steady(each[0]);
            x.addGain(100);
            x.connect(0, 1, each[1]);
            check.due(each[1] + " percent of " + each[0], each[2], () -> played(x, 1, 1));
        }
        ToneGraph y = Start.steady(99);
        y.addGain(100);
        y.addGain(100);
        y.addGain(100);
        y.addGain(100);
        y.addGain(100);
        for (int node = 1; node <= 4; node++) {
            if (node < 4) {
                y.connect(0, node, 100);
            }
            y.connect(node - 1, 5, 1);
        }
        check.due("four times 0.99 is four times 0", 0, () -> played(y, 5, 1));
    }

    private static void inputWithoutWires() {
        ToneGraph x = Start.steady(1000);
        x.addGain(200);
        x.addDelay(1, 95);
        x.addFilter(64, 64, 64);
        x.addBus(0);
        x.play(3);
        for (int node = 1; node <= 4; node++) {
            int number = node;
            check.due("the input of " + node + " is 0", 0, () -> x.outputOf(number));
        }
    }

    /** Only outputs are cut: an input of 65534 stays, as does that at the sample before. */
    private static void inputsAreNotCut() {
        ToneGraph x = Start.loud();
        x.addGain(100);
        x.addGain(10);
        x.connect(7, 8, 100);
        x.connect(7, 9, 100);
        x.connect(8, 9, 100);
        check.due("10 percent of 65534", 6553, () -> played(x, 9, 1));
        ToneGraph y = Start.loud();
        y.addGain(100);
        y.addFilter(32, 0, 0);
        y.connect(7, 8, 100);
        y.connect(7, 9, 100);
        y.connect(8, 9, 100);
        check.due("32 by 64 of 65534", 32767, () -> played(y, 9, 1));
        ToneGraph z = Start.loud();
        z.addGain(100);
        z.addBus(100);
        z.connect(7, 8, 100);
        z.connect(7, 9, 100);
        z.connect(8, 9, 100);
        check.due("65434 beyond 100", 100 + 16358, () -> played(z, 9, 1));
    }

    /** Wires may form circles only if each circle has a delay. */
    private static void circlesOfOne() {
        ToneGraph x = Start.full();
        for (int node = 1; node <= 9; node++) {
            int number = node;
            if (x.kindOf(node) == 'd') {
                check.due("a delay to itself", 1, () -> x.connect(number, number, 100));
            } else {
                check.unsupported("no wire from " + node + " to itself", () -> x.connect(number, number, 100));
            }
        }
    }

    private static void longestCircle() {
        ToneGraph x = new ToneGraph();
        for (int node = 1; node <= 9; node++) {
            x.addBus(node);
        }
        for (int node = 1; node < 9; node++) {
            x.connect(node, node + 1, 100);
        }
        for (int node = 1; node <= 9; node++) {
            int number = node;
            check.unsupported("9 to " + node, () -> x.connect(9, number, 100));
        }
        check.due("8 to 9 away", 100, () -> x.disconnect(8, 9));
        check.due("9 to 1 closes nothing now", 1, () -> x.connect(9, 1, 100));
        check.unsupported("8 to 9 would", () -> x.connect(8, 9, 100));
        check.due("consistent", true, x::isConsistent);
    }

    private static void circlesThroughDelays() {
        for (int place = 1; place <= 4; place++) {
            ToneGraph x = new ToneGraph();
            for (int node = 1; node <= 4; node++) {
                if (node == place) {
                    x.addDelay(1, 0);
                } else {
                    x.addGain(100);
                }
            }
            for (int node = 1; node <= 4; node++) {
                int from = node;
                check.due("a circle of 4 with the delay " + place, 1, () -> x.connect(from, from % 4 + 1, 100));
            }
            check.due("consistent", true, x::isConsistent);
            int behind = place % 4 + 1;
            int before = (place + 2) % 4 + 1;
            check.unsupported("the short way round the delay " + place, () -> x.connect(before, behind, 100));
            check.due("the other short way", 2, () -> x.connect(behind, before, 100));
        }
    }

    /** The next node is the one with the lowest number of those that are ready. */
    private static void orderWithoutWires() {
        ToneGraph x = new ToneGraph();
        check.due("of the voices alone", "0", () -> Start.orderOf(x));
        check.due("of a full board", "0 1 2 3 4 5 6 7 8 9", () -> Start.orderOf(Start.full()));
    }

    private static void orderOfDelays() {
        ToneGraph x = Start.full();
        x.connect(9, 4, 10);
        x.connect(6, 4, 10);
        x.connect(5, 5, 10);
        check.due("a delay waits for no wire, its own neither", "0 1 2 3 4 5 6 7 8 9", () -> Start.orderOf(x));
        x.connect(6, 1, 10);
        check.due("1 waits for the delay 6", "0 2 3 4 5 6 1 7 8 9", () -> Start.orderOf(x));
        x.connect(1, 2, 10);
        check.due("2 waits for 1", "0 3 4 5 6 1 2 7 8 9", () -> Start.orderOf(x));
    }

    private static void orderStepByStep() {
        ToneGraph x = Start.full();
        x.connect(9, 1, 10);
        x.connect(8, 9, 10);
        x.connect(0, 8, 10);
        check.due("1 behind 9, the last one", "0 2 3 4 5 6 7 8 9 1", () -> Start.orderOf(x));
        x.connect(9, 7, 10);
        x.connect(1, 7, 10);
        check.due("7 waits for all of its wires", "0 2 3 4 5 6 8 9 1 7", () -> Start.orderOf(x));
        x.disconnect(8, 9);
        check.due("8 is no longer ahead of 9 by a wire", "0 2 3 4 5 6 8 9 1 7", () -> Start.orderOf(x));
        x.disconnect(0, 8);
        x.connect(7, 8, 10);
        check.due("the lowest one comes as soon as it is ready", "0 2 3 4 5 6 9 1 7 8", () -> Start.orderOf(x));
        x.disconnect(9, 1);
        x.disconnect(1, 7);
        x.disconnect(9, 7);
        x.disconnect(7, 8);
        check.due("as at first", "0 1 2 3 4 5 6 7 8 9", () -> Start.orderOf(x));
    }

    /** The input times its percentage, divided by 100 and rounded towards 0. */
    private static void gainsAreRounded() {
        int[][] due = {{1, 50, 0}, {1, -50, 0}, {3, 50, 1}, {3, -50, -1}, {1, 99, 0}, {1, 199, 1}, {1, -199, -1}, {1, 200, 2},
            {1, -200, -2}, {1000, 0, 0}, {99, 1, 0}, {100, -1, -1}, {99, -1, 0}};
        for (int[] each : due) {
            ToneGraph x = Start.steady(each[0]);
            x.addGain(each[1]);
            x.connect(0, 1, 100);
            check.due("a gain of " + each[1] + " from " + each[0], each[2], () -> played(x, 1, 1));
        }
    }

    /** It keeps as many numbers as its length, which are at first 0. */
    private static void delaysAtFirst() {
        for (int length : new int[] {1, 2, 59, 60}) {
            ToneGraph x = Start.steady(7);
            x.addDelay(length, 95);
            x.connect(0, 1, 100);
            for (int sample = 0; sample < length; sample++) {
                check.due("delay " + length + " at " + sample, 0, () -> played(x, 1, 1));
            }
            check.due("delay " + length + " at " + length, 7, () -> played(x, 1, 1));
        }
    }

    /** The number that has been kept for the longest time, round and round: a note of 1 sample comes back unchanged. */
    private static void delaysGoRound() {
        for (int length : new int[] {1, 3, 60}) {
            ToneGraph x = new ToneGraph();
            x.setWave('q');
            x.setEnvelope(0, 0, 1000, 1);
            x.addDelay(length, 0);
            x.connect(0, 1, 100);
            x.connect(1, 1, 100);
            x.begin(0, 100);
            x.end(0);
            for (int sample = 0; sample < 190; sample++) {
                int due = sample > 0 && sample % length == 0 ? 1000 : 0;
                check.due("delay " + length + " at " + sample, due, () -> played(x, 1, 1));
            }
        }
    }

    /** The echo is rounded towards 0. */
    private static void echoesAreRounded() {
        int[][] due = {{1, 95, 1}, {1, -95, 1}, {3, 50, 3 + 1}, {3, -50, 3 - 1}, {100, 1, 101}, {99, 1, 99}, {99, -1, 99},
            {100, -1, 99}, {100, 0, 100}};
        for (int[] each : due) {
            ToneGraph x = Start.steady(each[0]);
            x.addDelay(1, each[1]);
            x.connect(0, 1, 100);
            x.play(2);
            check.due("the echo of " + each[0] + " by " + each[1], each[2], () -> played(x, 1, 1));
        }
        ToneGraph y = Start.steady(3);
        y.addDelay(1, 50);
        y.connect(0, 1, -100);
        y.play(2);
        check.due("the echo of -3 by 50", -4, () -> played(y, 1, 1));
    }

    /** The sum of the input and the echo is cut, and not the input alone: 65534 - 31128 is still too much. */
    private static void theSumOfADelayIsCut() {
        ToneGraph x = Start.loud();
        x.addGain(100);
        x.addDelay(1, -95);
        x.connect(7, 8, 100);
        x.connect(7, 9, 100);
        x.connect(8, 9, 100);
        check.due("at first 0", 0, () -> played(x, 9, 1));
        check.due("65534 is cut", 32767, () -> played(x, 9, 1));
        check.due("34406 is cut", 32767, () -> played(x, 9, 1));
        x.disconnect(8, 9);
        check.due("the one kept before", 32767, () -> played(x, 9, 1));
        check.due("32767 - 31128 is not", 1639, () -> played(x, 9, 1));
    }

    /** The sum is divided by 64 and rounded towards 0. */
    private static void filtersAreRounded() {
        int[][] due = {{63, 1, 0}, {64, 1, 1}, {127, 1, 1}, {63, -1, 0}, {64, -1, -1}, {127, -1, -1}, {128, -1, -2}, {1, 64, 1},
            {1, -64, -1}, {1, 63, 0}, {1000, 0, 0}};
        for (int[] each : due) {
            ToneGraph x = Start.steady(each[0]);
            x.addFilter(each[1], 0, 0);
            x.connect(0, 1, 100);
            check.due("a is " + each[1] + ", the input " + each[0], each[2], () -> played(x, 1, 1));
        }
        ToneGraph y = Start.steady(33);
        y.addFilter(1, 1, 0);
        y.connect(0, 1, 100);
        check.due("33 by 64", 0, () -> played(y, 1, 1));
        check.due("the sum, 66, is divided, and not each part", 1, () -> played(y, 1, 1));
    }

    /** The sample ahead of the first one counts as 0 for both. */
    private static void aheadOfTheFirstSample() {
        ToneGraph x = Start.steady(64);
        x.addFilter(0, 64, 0);
        x.addFilter(1, 0, 64);
        x.connect(0, 1, 100);
        x.connect(0, 2, 100);
        check.due("no input before", 0, () -> played(x, 1, 1));
        check.due("no output before", 1, () -> x.outputOf(2));
        check.due("the input before", 64, () -> played(x, 1, 1));
        check.due("the output before", 2, () -> x.outputOf(2));
        x.addFilter(0, 64, 64);
        x.connect(0, 3, 100);
        check.due("a filter that was added later starts with 0 too", 0, () -> played(x, 3, 1));
        check.due("then the input before", 64, () -> played(x, 3, 1));
        check.due("then both", 128, () -> played(x, 3, 1));
    }

    /** The input if this is, without sign, not greater than the limit; the rest is rounded down. */
    private static void aroundTheLimit() {
        int[][] due = {{99, 99}, {100, 100}, {101, 100}, {103, 100}, {104, 101}, {107, 101}, {108, 102}, {0, 0}};
        for (int[] each : due) {
            ToneGraph x = Start.steady(each[0]);
            x.addBus(100);
            x.addBus(100);
            x.connect(0, 1, 100);
            x.connect(0, 2, -100);
            check.due("the limit 100, the input " + each[0], each[1], () -> played(x, 1, 1));
            check.due("the limit 100, the input -" + each[0], -each[1], () -> x.outputOf(2));
        }
    }

    private static void theLeastAndTheGreatestLimit() {
        int[][] due = {{0, 0}, {1, 0}, {3, 0}, {4, 1}, {1000, 250}};
        for (int[] each : due) {
            ToneGraph x = Start.steady(each[0]);
            x.addBus(0);
            x.addBus(0);
            x.connect(0, 1, 100);
            x.connect(0, 2, -100);
            check.due("the limit 0, the input " + each[0], each[1], () -> played(x, 1, 1));
            check.due("the limit 0, the input -" + each[0], -each[1], () -> x.outputOf(2));
        }
        ToneGraph y = Start.loud();
        y.addBus(32767);
        y.addBus(32767);
        y.connect(7, 8, 100);
        y.connect(7, 9, -100);
        y.connect(6, 9, 100);
        check.due("the limit 32767, the input 32767", 32767, () -> played(y, 8, 1));
        check.due("the limit 32767, the input -32766", -32766, () -> y.outputOf(9));
        y.connect(5, 8, 100);
        y.connect(5, 9, -100);
        check.due("the limit 32767, the input 49151", 32767, () -> played(y, 8, 1));
        check.due("the limit 32767, the input -49150", -32767, () -> y.outputOf(9));
    }
}
