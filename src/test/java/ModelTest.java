import java.util.Random;

/**
 * Runs of calls that a seeded number picks, the same on a ToneGraph and on the plain model: all answers must be the
 * same. A run stays within the 512 calls for which the document tells what an object answers.
 */
final class ModelTest {
    private static final int[] EDGES = {Integer.MIN_VALUE, -201, -101, -96, -65, -1, 0, 1, 4, 10, 60, 64, 65, 101, 201,
        1001, 32767, 32768, Integer.MAX_VALUE};
    private static final int LAST_CALL = 350;
    private final Check check = new Check();
    private final Random random;
    private final ToneGraph graph = new ToneGraph();
    private final PlainModel model = new PlainModel();
    private final int run;
    private int calls;

    private ModelTest(int run) {
        this.run = run;
        random = new Random(run);
    }

    public static void main(String[] args) {
        Check all = new Check();
        for (int run = 0; run < 3000; run++) {
            int number = run;
            all.due("run " + run, true, () -> new ModelTest(number).runs());
        }
        all.close("ModelTest");
    }

    private boolean runs() {
        while (calls < LAST_CALL) {
            if (!one() || random.nextInt(12) == 0 && !seen()) {
                return false;
            }
        }
        return seen() && calls <= 512;
    }

    private boolean both(String what, Check.Call got, Check.Call want) {
        calls++;
        String gotten = Check.answerOf(got);
        String due = Check.answerOf(want);
        check.same("run " + run + ", call " + calls + ": " + what, due, gotten);
        return due.equals(gotten);
    }

    private int from(int least, int most) {
        if (random.nextInt(40) == 0) {
            return EDGES[random.nextInt(EDGES.length)];
        }
        int pick = random.nextInt(8);
        return pick == 0 ? least : pick == 1 ? most : least + random.nextInt(most - least + 1);
    }

    private int node() {
        return from(0, model.nodes.size() - 1 + random.nextInt(20) / 19);
    }

    private int key() {
        return run % 3 == 0 ? from(0, 59) : from(40, 43);
    }

    private boolean one() {
        int pick = random.nextInt(40);
        if (pick < 3) {
            return addOne();
        }
        if (pick < 12) {
            return wireOne();
        }
        if (pick < 26) {
            return noteOne();
        }
        int samples = random.nextInt(3) == 0 ? from(1, 64) : from(1, 6);
        return random.nextInt(3) == 0 ? both("step()", graph::step, () -> model.play(1))
                : both("play(" + samples + ")", () -> graph.play(samples), () -> model.play(samples));
    }

    private boolean addOne() {
        int p = from(-64, 64);
        int q = from(-64, 64);
        int r = from(-64, 64);
        int percent = from(-200, 200);
        int length = random.nextBoolean() ? from(1, 60) : from(1, 3);
        int feedback = from(-95, 95);
        int limit = random.nextBoolean() ? from(0, 32767) : from(0, 1000);
        switch (random.nextInt(4)) {
            case 0:
                return both("addGain " + percent, () -> graph.addGain(percent), () -> model.addGain(percent));
            case 1:
                return both("addDelay " + length + " " + feedback, () -> graph.addDelay(length, feedback),
                        () -> model.addDelay(length, feedback));
            case 2:
                return both("addFilter " + p + " " + q + " " + r, () -> graph.addFilter(p, q, r),
                        () -> model.addFilter(p, q, r));
            default:
                return both("addBus " + limit, () -> graph.addBus(limit), () -> model.addBus(limit));
        }
    }

    private boolean wireOne() {
        int from = node();
        int to = node();
        int percent = random.nextBoolean() ? 100 : from(-100, 100);
        int gain = from(-200, 200);
        switch (random.nextInt(8)) {
            case 0:
                return both("disconnect " + from + " " + to, () -> graph.disconnect(from, to),
                        () -> model.disconnect(from, to));
            case 1:
                return both("setGain " + to + " " + gain, () -> graph.setGain(to, gain),
                        () -> model.setGain(to, gain));
            case 2:
                return both("setOutput " + to, () -> graph.setOutput(to), () -> model.setOutput(to));
            default:
                return both("connect " + from + " " + to + " " + percent, () -> graph.connect(from, to, percent),
                        () -> model.connect(from, to, percent));
        }
    }

    private boolean noteOne() {
        int key = key();
        int velocity = from(1, 100);
        int attack = random.nextBoolean() ? from(0, 200) : from(0, 5);
        int decay = random.nextBoolean() ? from(0, 200) : from(0, 5);
        int sustain = from(0, 1000);
        int release = random.nextBoolean() ? from(0, 200) : from(0, 9);
        char wave = "sqtsqtsqtx".charAt(random.nextInt(10));
        switch (random.nextInt(12)) {
            case 0:
                return both("endAll()", graph::endAll, model::endAll);
            case 1:
                return both("setWave " + wave, () -> graph.setWave(wave), () -> model.setWave(wave));
            case 2:
                return both("setEnvelope", () -> graph.setEnvelope(attack, decay, sustain, release),
                        () -> model.setEnvelope(attack, decay, sustain, release));
            case 3:
            case 4:
            case 5:
                return both("end " + key, () -> graph.end(key), () -> model.end(key));
            default:
                return both("begin " + key + " " + velocity, () -> graph.begin(key, velocity),
                        () -> model.begin(key, velocity));
        }
    }

    private boolean seen() {
        int size = from(1, 64);
        int samples = from(1, 40);
        int ago = from(0, 63);
        boolean same = both("ahead " + samples, () -> graph.ahead(samples), () -> model.ahead(samples));
        same &= both("aheadByBlocks " + samples + " " + size, () -> graph.aheadByBlocks(samples, size),
                () -> model.aheadByBlocks(samples, size));
        same &= both("heard " + ago, () -> graph.heard(ago), () -> model.heard(ago));
        same &= both("time", graph::time, () -> model.now);
        same &= both("greatest", graph::greatest, model::greatest);
        same &= both("energy", graph::energy, model::energy);
        same &= both("meanEnergy", graph::meanEnergy, model::meanEnergy);
        same &= both("quietShare", graph::quietShare, model::quietShare);
        same &= both("isConsistent", graph::isConsistent, () -> true);
        return same & seenNodes() & seenVoices();
    }

    private boolean seenNodes() {
        boolean same = both("nodes", graph::nodes, model.nodes::size);
        same &= both("longestBlock", graph::longestBlock, model::longestBlock);
        for (int n = -1; n <= model.nodes.size(); n++) {
            int node = n;
            same &= both("outputOf " + n, () -> graph.outputOf(node), () -> model.outputOf(node));
            same &= both("nodeAt " + n, () -> graph.nodeAt(node), () -> model.nodeAt(node));
        }
        int node = node();
        int index = from(-1, 4);
        same &= both("wires " + node, () -> graph.wires(node), () -> wires(node));
        same &= both("wireFrom " + node + " " + index, () -> graph.wireFrom(node, index),
                () -> model.wireFrom(node, index));
        same &= both("wirePercent " + node + " " + index, () -> graph.wirePercent(node, index),
                () -> model.wirePercent(node, index));
        return same;
    }

    private int wires(int node) {
        model.outputOf(node);
        return model.nodes.get(node).wires.size();
    }

    private boolean seenVoices() {
        boolean same = both("sounding", graph::sounding, model::sounding);
        same &= both("stolen", graph::stolen, () -> model.stolen);
        for (int v = -1; v <= 4; v++) {
            int voice = v;
            same &= both("stateOf " + v, () -> graph.stateOf(voice), () -> model.stateOf(voice));
            same &= both("keyOf " + v, () -> graph.keyOf(voice), () -> model.keyOf(voice));
            same &= both("levelOf " + v, () -> graph.levelOf(voice), () -> model.levelOf(voice));
            same &= both("phaseOf " + v, () -> graph.phaseOf(voice), () -> model.phaseOf(voice));
        }
        return same;
    }
}
