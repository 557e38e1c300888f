/** Promises 28 to 39: samples that are played, looked ahead at and remembered, by answers worked out by hand. */
final class SamplesTest {
    private static final Check CHECK = new Check();

    public static void main(String[] args) {
        play();
        blocksEndAnywhere();
        ahead();
        aheadChangesNothing();
        heard();
        outputOf();
        sums();
        consistent();
        CHECK.close("SamplesTest");
    }

    private static void play() {
        ToneGraph x = new ToneGraph();
        CHECK.argument("0 samples", () -> x.play(0));
        CHECK.argument("65 samples", () -> x.play(65));
        CHECK.argument("-1 samples", () -> x.play(-1));
        CHECK.due("nothing was played", 0, x::time);
        x.begin(0, 100);
        CHECK.due("the first one", -1024, () -> x.play(1));
        CHECK.due("64 more: the last one", -896, () -> x.play(64));
        CHECK.due("one step", -894, x::step);
        CHECK.due("66 samples", 66, x::time);
    }

    /** The same graph, whose circle goes through a delay of 3, played in blocks that end at many places. */
    private static void blocksEndAnywhere() {
        int[] due = new int[60];
        ToneGraph one = circle();
        for (int i = 0; i < 60; i++) {
            due[i] = one.step();
        }
        CHECK.due("not all the same", true, () -> due[30] != due[59] && due[59] != 0);
        for (int size = 1; size <= 60; size++) {
            ToneGraph x = circle();
            for (int past = 0; past + size <= 60; past += size) {
                int last = past + size - 1;
                int some = size;
                CHECK.due("sample " + last + " by " + size, due[last], () -> x.play(some));
            }
        }
        ToneGraph x = circle();
        for (int samples = 1; samples <= 40; samples++) {
            int some = samples;
            CHECK.due("ahead " + samples, due[samples - 1], () -> x.ahead(some));
            for (int size = 1; size <= 64; size += 9) {
                int most = size;
                ToneGraph y = circle();
                CHECK.due("aheadByBlocks " + samples + " " + size, due[samples - 1], () -> y.aheadByBlocks(some, most));
            }
        }
    }

    private static ToneGraph circle() {
        ToneGraph x = new ToneGraph();
        x.addFilter(40, 20, -10);
        x.addDelay(3, 60);
        x.addBus(700);
        x.addDelay(7, -40);
        x.connect(0, 1, 90);
        x.connect(1, 2, 100);
        x.connect(2, 3, 100);
        x.connect(3, 1, -70);
        x.connect(3, 4, 100);
        x.connect(4, 2, 33);
        x.setOutput(3);
        x.setWave('t');
        x.setEnvelope(5, 9, 300, 20);
        x.begin(50, 90);
        x.begin(41, 70);
        x.play(2);
        x.end(41);
        return x;
    }

    private static void ahead() {
        ToneGraph x = new ToneGraph();
        CHECK.argument("ahead 0", () -> x.ahead(0));
        CHECK.argument("ahead 41", () -> x.ahead(41));
        CHECK.argument("ahead -1", () -> x.ahead(-1));
        CHECK.argument("aheadByBlocks 0 1", () -> x.aheadByBlocks(0, 1));
        CHECK.argument("aheadByBlocks 41 1", () -> x.aheadByBlocks(41, 1));
        CHECK.argument("aheadByBlocks 1 0", () -> x.aheadByBlocks(1, 0));
        CHECK.argument("aheadByBlocks 1 65", () -> x.aheadByBlocks(1, 65));
        CHECK.argument("aheadByBlocks 1 -7", () -> x.aheadByBlocks(1, -7));
        x.begin(0, 100);
        CHECK.due("ahead 1", -1024, () -> x.ahead(1));
        CHECK.due("ahead 40", -946, () -> x.ahead(40));
        CHECK.due("aheadByBlocks 40 64", -946, () -> x.aheadByBlocks(40, 64));
        CHECK.due("aheadByBlocks 40 1", -946, () -> x.aheadByBlocks(40, 1));
    }

    private static void aheadChangesNothing() {
        ToneGraph x = circle();
        ToneGraph y = circle();
        for (int i = 0; i < 30; i++) {
            x.ahead(40);
            x.aheadByBlocks(39, 5);
            x.isConsistent();
            CHECK.due("the same as without a look ahead, " + i, y.step(), x::step);
            CHECK.due("levels", "" + y.levelOf(0) + y.levelOf(1), () -> "" + x.levelOf(0) + x.levelOf(1));
            CHECK.due("states", "" + y.stateOf(0) + y.stateOf(1), () -> "" + x.stateOf(0) + x.stateOf(1));
            CHECK.due("phase", y.phaseOf(0), () -> x.phaseOf(0));
            CHECK.due("output of 3", y.outputOf(3), () -> x.outputOf(3));
        }
        CHECK.due("time", y.time(), x::time);
        CHECK.due("energy", y.energy(), x::energy);
        CHECK.due("greatest", y.greatest(), x::greatest);
        CHECK.due("heard", y.heard(31), () -> x.heard(31));
    }

    private static void heard() {
        ToneGraph x = new ToneGraph();
        CHECK.argument("ago -1", () -> x.heard(-1));
        CHECK.argument("ago 64", () -> x.heard(64));
        CHECK.none("none yet", () -> x.heard(0));
        x.begin(0, 100);
        x.play(63);
        CHECK.due("62 ago", -1024, () -> x.heard(62));
        CHECK.none("63 ago", () -> x.heard(63));
        x.play(1);
        CHECK.due("63 ago", -1024, () -> x.heard(63));
        x.play(10);
        CHECK.due("63 ago", -1004, () -> x.heard(63));
        CHECK.due("0 ago", -878, () -> x.heard(0));
        CHECK.due("9 ago", -896, () -> x.heard(9));
    }

    private static void outputOf() {
        ToneGraph x = NodesTest.square(50);
        x.addGain(-30);
        x.connect(0, 1, 100);
        CHECK.index("-1", () -> x.outputOf(-1));
        CHECK.index("2", () -> x.outputOf(2));
        CHECK.due("before the first sample", 0, () -> x.outputOf(0));
        x.play(5);
        CHECK.due("the voices", 500, () -> x.outputOf(0));
        CHECK.due("the gain", -150, () -> x.outputOf(1));
        x.addBus(5);
        x.connect(0, 2, 100);
        CHECK.due("added since then", 0, () -> x.outputOf(2));
        x.ahead(7);
        CHECK.due("still 0", 0, () -> x.outputOf(2));
        x.setGain(1, 200);
        CHECK.due("at the latest sample", -150, () -> x.outputOf(1));
        x.step();
        CHECK.due("played", 128, () -> x.outputOf(2));
    }

    private static void sums() {
        ToneGraph x = new ToneGraph();
        CHECK.arithmetic("no mean", x::meanEnergy);
        CHECK.arithmetic("no share", x::quietShare);
        CHECK.due("greatest at first", 0, x::greatest);
        CHECK.due("energy at first", 0L, x::energy);
        CHECK.due("time at first", 0, x::time);
        x.play(2);
        CHECK.due("two quiet ones", 1.0f, x::quietShare);
        CHECK.due("no energy", 0.0, x::meanEnergy);
        x.begin(0, 100);
        x.step();
        CHECK.due("greatest, without sign", 1024, x::greatest);
        CHECK.due("energy", 1048576L, x::energy);
        CHECK.due("mean", 1048576.0 / 3.0, x::meanEnergy);
        CHECK.due("share", 2.0f / 3.0f, x::quietShare);
        x.endAll();
        x.play(4);
        CHECK.due("time", 7, x::time);
        CHECK.due("greatest stays", 1024, x::greatest);
        CHECK.due("mean of 7", 1048576.0 / 7.0, x::meanEnergy);
        CHECK.due("share of 7", 6.0f / 7.0f, x::quietShare);
        loudest();
    }

    /** The squares of many loud samples are more than an int holds. */
    private static void loudest() {
        ToneGraph x = NodesTest.square(100);
        for (int i = 0; i < 6; i++) {
            x.addGain(i == 0 ? -200 : 200);
            x.connect(i, i + 1, 100);
        }
        x.setOutput(6);
        x.play(64);
        CHECK.due("greatest", 32767, x::greatest);
        CHECK.due("energy", 64L * 32767L * 32767L, x::energy);
        CHECK.due("mean", 32767.0 * 32767.0, x::meanEnergy);
        CHECK.due("none is quiet", 0.0f, x::quietShare);
    }

    private static void consistent() {
        CHECK.due("a new one", true, () -> new ToneGraph().isConsistent());
        ToneGraph x = circle();
        for (int i = 0; i < 20; i++) {
            CHECK.due("circle at " + i, true, x::isConsistent);
            x.play(3);
        }
    }
}
