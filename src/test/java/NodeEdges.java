/** The promises 2 to 16 at their edges. */
final class NodeEdges {
    private static Check check;

    private NodeEdges() {
    }

    static void all(Check given) {
        check = given;
        promise2();
        promise3();
        promise4();
        promise5();
        promise6();
        promise6TwoExceptions();
        promise7();
        promise8();
        promise9();
        promise10();
        promise11();
        promise12();
        promise13();
        promise14();
        promise15();
        promise16();
    }

    private static void promise2() {
        ToneGraph x = new ToneGraph();
        EdgesTest.argument("2: percent", -200, 200, x::addGain);
        check.due("2: no node by those refused", 3, x::nodes);
        check.due("2: the number of the node", 3, () -> x.addGain(0));
        check.due("2: its percentage", 0, () -> x.setGain(3, 1));
        check.due("2: that of the least", -200, () -> x.setGain(1, 1));
        check.due("2: that of the greatest", 200, () -> x.setGain(2, 1));
        ToneGraph full = Start.full();
        check.state("2: full", () -> full.addGain(200));
        check.argument("2: full, and out of range", () -> full.addGain(201));
    }

    private static void promise3() {
        ToneGraph x = new ToneGraph();
        EdgesTest.argument("3: length", 1, 60, length -> x.addDelay(length, 0));
        EdgesTest.argument("3: feedback", -95, 95, feedback -> x.addDelay(60, feedback));
        check.argument("3: both", () -> x.addDelay(0, 96));
        check.due("3: no node by those refused", 5, x::nodes);
        check.due("3: the number of the node", 5, () -> x.addDelay(30, 0));
        ToneGraph full = Start.full();
        check.state("3: full", () -> full.addDelay(60, 95));
        check.argument("3: full, and the length out of range", () -> full.addDelay(61, 0));
        check.argument("3: full, and the feedback out of range", () -> full.addDelay(1, -96));
        check.due("3: the shortest delay is still 5", 5, full::longestBlock);
    }

    private static void promise4() {
        ToneGraph x = new ToneGraph();
        EdgesTest.argument("4: a", -64, 64, a -> x.addFilter(a, 0, 0));
        EdgesTest.argument("4: b", -64, 64, b -> x.addFilter(0, b, 0));
        EdgesTest.argument("4: c", -64, 64, c -> x.addFilter(0, 0, c));
        check.argument("4: all", () -> x.addFilter(65, -65, 65));
        check.due("4: no node by those refused", 7, x::nodes);
        check.due("4: the number of the node", 7, () -> x.addFilter(64, -64, 64));
        ToneGraph full = Start.full();
        check.state("4: full", () -> full.addFilter(64, 64, 64));
        check.argument("4: full, and a out of range", () -> full.addFilter(65, 0, 0));
        check.argument("4: full, and b out of range", () -> full.addFilter(0, -65, 0));
        check.argument("4: full, and c out of range", () -> full.addFilter(0, 0, 65));
    }

    private static void promise5() {
        ToneGraph x = new ToneGraph();
        EdgesTest.argument("5: limit", 0, 32767, x::addBus);
        check.due("5: no node by those refused", 3, x::nodes);
        check.due("5: the number of the node", 3, () -> x.addBus(1));
        ToneGraph full = Start.full();
        check.state("5: full", () -> full.addBus(0));
        check.argument("5: full, and below the range", () -> full.addBus(-1));
        check.argument("5: full, and above the range", () -> full.addBus(32768));
    }

    private static void promise6() {
        ToneGraph x = new ToneGraph();
        check.unsupported("6: on a new object there is no node for a wire", () -> x.connect(0, 0, 1));
        x.addGain(100);
        x.addGain(100);
        for (int bad : new int[] {Integer.MIN_VALUE, -1, 3, Integer.MAX_VALUE}) {
            check.index("6: from " + bad, () -> x.connect(bad, 1, 5));
            check.index("6: to " + bad, () -> x.connect(0, bad, 5));
        }
        check.due("6: no wire", "0 0 0", () -> x.wires(0) + " " + x.wires(1) + " " + x.wires(2));
        check.due("6: from the first node to the last one", 1, () -> x.connect(0, 2, 5));
        for (int good : new int[] {-100, 100}) {
            check.due("6: the first wire", 1, () -> x.connect(0, 1, good));
            check.state("6: there is one", () -> x.connect(0, 1, good));
            check.state("6: there is one with another percentage", () -> x.connect(0, 1, -good));
            check.due("6: it stays as it is", good, () -> x.disconnect(0, 1));
        }
        check.due("6: a wire on from 2", 1, () -> x.connect(2, 1, 5));
        check.unsupported("6: a circle", () -> x.connect(1, 2, 5));
        check.due("6: the second wire", 2, () -> x.connect(0, 1, 5));
    }

    private static void promise6TwoExceptions() {
        ToneGraph x = Start.full();
        for (int from = 4; from <= 7; from++) {
            x.connect(from, 1, 10);
        }
        check.index("6: no node, and 0 percent", () -> x.connect(10, 1, 0));
        check.index("6: no node, and 101 percent", () -> x.connect(1, 10, 101));
        check.index("6: no node, and 4 wires", () -> x.connect(-1, 1, 10));
        check.index("6: no node, and to the voices", () -> x.connect(-1, 0, 10));
        check.index("6: neither node", () -> x.connect(-1, 10, 10));
        check.argument("6: 0 percent, and there is a wire", () -> x.connect(4, 1, 0));
        check.argument("6: -101 percent, and 4 wires", () -> x.connect(8, 1, -101));
        check.argument("6: 0 percent, and to the voices", () -> x.connect(4, 0, 0));
        check.argument("6: 101 percent, and a circle", () -> x.connect(2, 2, 101));
        check.state("6: 4 wires, and a circle of one", () -> x.connect(1, 1, 10));
        x.connect(1, 2, 10);
        check.state("6: 4 wires, and a circle of two", () -> x.connect(2, 1, 10));
        check.due("6: the wires stay", "4 1", () -> x.wires(1) + " " + x.wires(2));
    }

    private static void promise7() {
        ToneGraph x = new ToneGraph();
        check.none("7: on a new object there is no wire", () -> x.disconnect(0, 0));
        x.addGain(100);
        x.addDelay(1, 0);
        for (int bad : new int[] {Integer.MIN_VALUE, -1, 3, Integer.MAX_VALUE}) {
            check.index("7: from " + bad, () -> x.disconnect(bad, 1));
            check.index("7: to " + bad, () -> x.disconnect(0, bad));
            check.index("7: both " + bad, () -> x.disconnect(bad, bad));
        }
        check.none("7: no wire at all", () -> x.disconnect(0, 1));
        x.connect(0, 1, -100);
        x.connect(2, 2, 100);
        check.none("7: no wire the other way round", () -> x.disconnect(1, 0));
        check.none("7: no wire from another node", () -> x.disconnect(2, 1));
        check.due("7: its percentage", -100, () -> x.disconnect(0, 1));
        check.none("7: only once", () -> x.disconnect(0, 1));
        check.due("7: the wire of a node to itself", 100, () -> x.disconnect(2, 2));
        check.due("7: empty", "0 0", () -> x.wires(1) + " " + x.wires(2));
        eachOfFour();
    }

    /** Of 4 wires any may be removed; the others keep their order. */
    private static void eachOfFour() {
        String[] due = {"1 2 3", "0 2 3", "0 1 3", "0 1 2"};
        for (int away = 0; away < 4; away++) {
            ToneGraph x = Start.full();
            for (int from = 0; from < 4; from++) {
                x.connect(from, 9, 20 + from);
            }
            int number = away;
            check.due("7: wire " + away, 20 + away, () -> x.disconnect(number, 9));
            check.due("7: the others", due[away], () -> x.wireFrom(9, 0) + " " + x.wireFrom(9, 1) + " " + x.wireFrom(9, 2));
            check.due("7: the last percentage", 20 + (away == 3 ? 2 : 3), () -> x.wirePercent(9, 2));
            check.none("7: no fourth one", () -> x.wirePercent(9, 3));
            check.due("7: a new one is the last", 4, () -> x.connect(number, 9, -1));
            check.due("7: at the end", away + " -1", () -> x.wireFrom(9, 3) + " " + x.wirePercent(9, 3));
        }
    }

    private static void promise8() {
        ToneGraph x = Start.full();
        for (int bad : new int[] {Integer.MIN_VALUE, -1, 10, Integer.MAX_VALUE}) {
            check.index("8: node " + bad, () -> x.setGain(bad, 100));
            check.index("8: node " + bad + ", and -201 percent", () -> x.setGain(bad, -201));
        }
        EdgesTest.argument("8: percent", -200, 200, percent -> x.setGain(1, percent));
        check.due("8: the percentage before, not one of those refused", 200, () -> x.setGain(1, 0));
        check.due("8: then 0", 0, () -> x.setGain(1, 7));
        for (int node : new int[] {0, 4, 5, 6, 7, 8, 9}) {
            check.unsupported("8: " + node + " is not a gain", () -> x.setGain(node, 100));
            check.unsupported("8: " + node + " is not a gain, and 201 percent", () -> x.setGain(node, 201));
        }
        check.index("8: no node on a new object", () -> new ToneGraph().setGain(1, 0));
        check.unsupported("8: the voices of a new object", () -> new ToneGraph().setGain(0, 0));
    }

    private static void promise9() {
        ToneGraph x = new ToneGraph();
        EdgesTest.index("9: node of a new object", 0, 0, x::setOutput);
        ToneGraph y = Start.full();
        EdgesTest.index("9: node of a full board", 0, 9, y::setOutput);
        check.due("9: the node before, not one of those refused", 9, () -> y.setOutput(9));
        check.due("9: the same again", 9, () -> y.setOutput(0));
        ToneGraph z = Start.steady(800);
        z.addGain(50);
        z.connect(0, 1, 100);
        z.step();
        z.setOutput(1);
        check.due("9: what was played stays", "800 800 640000", () -> z.heard(0) + " " + z.greatest() + " " + z.energy());
        check.due("9: from the next sample on", 400, z::step);
        check.due("9: heard by the node of then", "400 800", () -> z.heard(0) + " " + z.heard(1));
    }

    private static void promise10() {
        ToneGraph x = new ToneGraph();
        for (int nodes = 1; nodes <= 10; nodes++) {
            int due = nodes;
            check.due("10: nodes", due, x::nodes);
            if (nodes < 10) {
                x.addBus(5);
            }
        }
        check.state("10: full", () -> x.addBus(5));
        check.due("10: still 10", 10, x::nodes);
    }

    private static void promise11() {
        EdgesTest.index("11: node of a new object", 0, 0, node -> new ToneGraph().kindOf(node));
        ToneGraph x = Start.full();
        EdgesTest.index("11: node of a full board", 0, 9, x::kindOf);
        StringBuilder kinds = new StringBuilder();
        for (int node = 0; node < 10; node++) {
            kinds.append(x.kindOf(node));
        }
        check.same("11: kinds", "vgggdddffb", kinds.toString());
    }

    private static void promise12() {
        EdgesTest.index("12: node of a new object", 0, 0, node -> new ToneGraph().wires(node));
        ToneGraph x = Start.full();
        EdgesTest.index("12: node of a full board", 0, 9, x::wires);
        check.due("12: none at first", 0, () -> x.wires(9));
        for (int from = 0; from < 4; from++) {
            x.connect(from, 9, 1);
        }
        check.due("12: four", 4, () -> x.wires(9));
        check.due("12: those that lead away do not count", 0, () -> x.wires(1));
        for (int from = 0; from < 4; from++) {
            x.disconnect(from, 9);
        }
        check.due("12: none again", 0, () -> x.wires(9));
    }

    private static ToneGraph wired() {
        ToneGraph x = Start.full();
        x.connect(3, 9, -100);
        x.connect(0, 9, 100);
        x.connect(8, 9, 1);
        x.connect(1, 9, -1);
        return x;
    }

    private static void promise13() {
        ToneGraph x = wired();
        for (int bad : new int[] {Integer.MIN_VALUE, -1, 10, Integer.MAX_VALUE}) {
            check.index("13: node " + bad, () -> x.wireFrom(bad, 0));
            check.index("13: node " + bad + ", and no such wire", () -> x.wireFrom(bad, bad));
        }
        EdgesTest.none("13: index", 0, 3, index -> x.wireFrom(9, index));
        check.due("13: in the order in which they were added", "3 0 8 1",
                () -> x.wireFrom(9, 0) + " " + x.wireFrom(9, 1) + " " + x.wireFrom(9, 2) + " " + x.wireFrom(9, 3));
        check.none("13: a node without wires", () -> x.wireFrom(2, 0));
        check.none("13: the voices", () -> x.wireFrom(0, 0));
        check.none("13: index -1 of a node without wires", () -> x.wireFrom(2, -1));
    }

    private static void promise14() {
        ToneGraph x = wired();
        for (int bad : new int[] {Integer.MIN_VALUE, -1, 10, Integer.MAX_VALUE}) {
            check.index("14: node " + bad, () -> x.wirePercent(bad, 0));
            check.index("14: node " + bad + ", and no such wire", () -> x.wirePercent(bad, bad));
        }
        EdgesTest.none("14: index", 0, 3, index -> x.wirePercent(9, index));
        check.due("14: in the order in which they were added", "-100 100 1 -1",
                () -> x.wirePercent(9, 0) + " " + x.wirePercent(9, 1) + " " + x.wirePercent(9, 2) + " " + x.wirePercent(9, 3));
        check.none("14: a node without wires", () -> x.wirePercent(2, 0));
        check.none("14: the voices", () -> x.wirePercent(0, 0));
        check.none("14: index -1 of a node without wires", () -> x.wirePercent(2, -1));
    }

    private static void promise15() {
        EdgesTest.index("15: place of a new object", 0, 0, place -> new ToneGraph().nodeAt(place));
        ToneGraph x = Start.full();
        EdgesTest.index("15: place of a full board", 0, 9, x::nodeAt);
        x.connect(9, 1, 1);
        check.due("15: the last place", 1, () -> x.nodeAt(9));
        check.due("15: the first place", 0, () -> x.nodeAt(0));
        check.unsupported("15: a circle", () -> x.connect(1, 9, 1));
        check.due("15: the order stays", "0 2 3 4 5 6 7 8 9 1", () -> Start.orderOf(x));
    }

    private static void promise16() {
        ToneGraph x = new ToneGraph();
        check.due("16: without nodes", 64, x::longestBlock);
        x.addGain(1);
        x.addFilter(1, 1, 1);
        x.addBus(1);
        check.due("16: without delays", 64, x::longestBlock);
        check.argument("16: 61 is no length", () -> x.addDelay(61, 0));
        check.due("16: still without delays", 64, x::longestBlock);
        x.addDelay(60, 0);
        check.due("16: the longest delay", 60, x::longestBlock);
        x.addDelay(60, 0);
        check.due("16: twice", 60, x::longestBlock);
        x.addDelay(59, 0);
        check.due("16: a shorter one", 59, x::longestBlock);
        x.addDelay(1, 0);
        check.due("16: the shortest delay", 1, x::longestBlock);
        x.addDelay(2, 0);
        check.due("16: a longer one", 1, x::longestBlock);
    }
}
