/** The terms "Waves" and "Envelopes". */
final class WaveTerms {
    private static final int[] STEPS = {64, 68, 72, 76, 81, 85, 90, 96, 102, 108, 114, 121};
    private static Check check;

    private WaveTerms() {
    }

    static void all(Check given) {
        check = given;
        firstSample();
        phaseWraps();
        eachKey();
        saw();
        square();
        triangle();
        attack();
        decay();
        longestEnvelope();
        shortestEnvelopes();
        levelsAreRoundedDown();
        releaseFromEachStage();
        longestRelease();
        noRelease();
        releaseOfOneSample();
        releaseOfNothing();
        releaseIsRoundedDown();
    }

    /** The phase is 0 for the first sample of a note, also where a note was before. */
    private static void firstSample() {
        ToneGraph x = new ToneGraph();
        x.begin(59, 100);
        check.due("phase of a new note", 0, () -> x.phaseOf(0));
        x.play(3);
        check.due("behind 3 samples", 3 * 1936, () -> x.phaseOf(0));
        x.end(59);
        x.begin(58, 100);
        check.due("a voice that is used again", 0, () -> x.phaseOf(0));
        for (int i = 0; i < 4; i++) {
            x.begin(57, 100);
        }
        check.due("a voice that is stolen", 0, () -> x.phaseOf(0));
    }

    /** Increases by the step of the key, modulo 65536. */
    private static void phaseWraps() {
        ToneGraph x = new ToneGraph();
        x.begin(48, 100);
        x.play(63);
        check.due("63 times 1024", 64512, () -> x.phaseOf(0));
        x.step();
        check.due("65536 is 0", 0, () -> x.phaseOf(0));
        x.step();
        check.due("and on", 1024, () -> x.phaseOf(0));
        ToneGraph y = new ToneGraph();
        y.begin(59, 100);
        y.play(33);
        check.due("33 times 1936", 63888, () -> y.phaseOf(0));
        y.step();
        check.due("65824 is 288", 288, () -> y.phaseOf(0));
        ToneGraph z = new ToneGraph();
        z.setEnvelope(0, 0, 1000, 200);
        z.begin(59, 100);
        z.end(59);
        z.play(34);
        check.due("so it does when the note is released", 288, () -> z.phaseOf(0));
    }

    /** The steps of the keys 0 to 11 are told; the step of a higher key is twice that of the key 12 below it. */
    private static void eachKey() {
        for (int key = 0; key < 60; key++) {
            int step = STEPS[key % 12];
            for (int octave = 0; octave < key / 12; octave++) {
                step *= 2;
            }
            int due = step;
            ToneGraph x = new ToneGraph();
            x.begin(key, 100);
            x.step();
            check.due("step of the key " + key, due, () -> x.phaseOf(0));
        }
    }

    /** The sample at a phase that is reached by one of the keys within 500 calls. */
    private static int at(char wave, int phase) {
        for (int key = 0; key < 60; key++) {
            int step = STEPS[key % 12] << key / 12;
            for (int n = 0; n < 30000; n++) {
                if (step * n % 65536 == phase) {
                    return sample(wave, key, n, phase);
                }
            }
        }
        throw new IllegalStateException("no key comes to the phase " + phase);
    }

    private static int sample(char wave, int key, int n, int phase) {
        ToneGraph x = new ToneGraph();
        x.setWave(wave);
        x.begin(key, 100);
        for (int left = n; left > 0; left -= 64) {
            x.play(Math.min(64, left));
        }
        check.due("phase", phase, () -> x.phaseOf(0));
        return x.step();
    }

    private static void values(char wave, int[][] due) {
        for (int[] each : due) {
            check.due("the wave " + wave + " at " + each[0], each[1], () -> at(wave, each[0]));
        }
    }

    /** p divided by 32 and rounded down, minus 1024. */
    private static void saw() {
        values('s', new int[][] {{0, -1024}, {30, -1024}, {32, -1023}, {62, -1023}, {32767, -1}, {32768, 0}, {32798, 0},
            {32800, 1}, {65502, 1022}, {65504, 1023}, {65534, 1023}});
    }

    /** 1000 if p is less than 32768, and otherwise -1000. */
    private static void square() {
        values('q', new int[][] {{0, 1000}, {32766, 1000}, {32767, 1000}, {32768, -1000}, {65534, -1000}});
    }

    /** r divided by 16 and rounded down, minus 1024, where r is p or 65535 minus p. */
    private static void triangle() {
        values('t', new int[][] {{0, -1024}, {14, -1024}, {16, -1023}, {32750, 1022}, {32752, 1023}, {32767, 1023},
            {32768, 1023}, {32782, 1023}, {32784, 1022}, {65518, -1023}, {65520, -1024}, {65534, -1024}});
    }

    private static String levelAndState(ToneGraph x) {
        return "" + x.levelOf(0) + x.stateOf(0);
    }

    /** Plays on, sample by sample, and compares level and state of the voice 0 ahead of each. */
    private static void stages(String what, ToneGraph x, String due) {
        for (String each : due.split(" ")) {
            check.due(what, each, () -> levelAndState(x));
            x.step();
        }
    }

    private static ToneGraph note(int attack, int decay, int sustain, int release) {
        ToneGraph x = new ToneGraph();
        x.setWave('q');
        x.setEnvelope(attack, decay, sustain, release);
        x.begin(0, 100);
        return x;
    }

    /** 1000 times n divided by the attack, if n is less than the attack. */
    private static void attack() {
        stages("attack 1", note(1, 0, 900, 0), "0a 900s 900s");
        stages("attack 2", note(2, 0, 900, 0), "0a 500a 900s");
        stages("attack 1, decay 1", note(1, 1, 900, 0), "0a 1000d 900s");
        stages("attack 4 to the sustain 0", note(4, 0, 0, 0), "0a 250a 500a 750a 0s");
    }

    /** If m is less than the decay. */
    private static void decay() {
        stages("decay 1", note(0, 1, 0, 0), "1000d 0s 0s");
        stages("decay 2", note(0, 2, 0, 0), "1000d 500d 0s");
        stages("decay 2 to the sustain 1000", note(0, 2, 1000, 0), "1000d 1000d 1000s");
        stages("decay 4", note(0, 4, 600, 0), "1000d 900d 800d 700d 600s");
    }

    private static void longestEnvelope() {
        ToneGraph x = note(200, 200, 0, 200);
        stages("attack 200", x, "0a 5a 10a");
        for (int i = 0; i < 4; i++) {
            x.play(49);
        }
        stages("attack 200 ends", x, "995a 1000d 995d 990d");
        for (int i = 0; i < 4; i++) {
            x.play(49);
        }
        stages("decay 200 ends", x, "5d 0s 0s");
    }

    private static void shortestEnvelopes() {
        stages("attack 0, decay 0", note(0, 0, 1000, 0), "1000s 1000s");
        stages("attack 0, decay 0, sustain 0", note(0, 0, 0, 0), "0s 0s");
        stages("attack 0, decay 0, sustain 1", note(0, 0, 1, 0), "1s 1s");
    }

    private static void levelsAreRoundedDown() {
        stages("attack 7", note(7, 0, 0, 0), "0a 142a 285a 428a 571a 714a 857a 0s");
        stages("decay 7", note(0, 7, 0, 0), "1000d 858d 715d 572d 429d 286d 143d 0s");
        stages("decay 3 to 1", note(0, 3, 1, 0), "1000d 667d 334d 1s");
        stages("decay 200 to 999", note(0, 200, 999, 0), "1000d 1000d 1000d");
    }

    /** Let x be the level that its next sample would have. */
    private static void releaseFromEachStage() {
        ToneGraph x = note(4, 4, 400, 2);
        x.play(3);
        x.end(0);
        stages("released in the attack", x, "750r 375r 0f 0f");
        ToneGraph y = note(4, 4, 400, 2);
        y.play(4);
        y.end(0);
        stages("released where the decay starts", y, "1000r 500r 0f");
        ToneGraph z = note(4, 4, 400, 2);
        z.play(7);
        z.end(0);
        stages("released at the end of the decay", z, "550r 275r 0f");
        ToneGraph w = note(4, 4, 400, 2);
        w.play(8);
        w.end(0);
        stages("released behind both", w, "400r 200r 0f");
    }

    /** When it has had as many samples from then on as the release, its voice is free. */
    private static void longestRelease() {
        ToneGraph x = note(0, 0, 1000, 200);
        x.endAll();
        stages("release 200", x, "1000r 995r 990r");
        for (int i = 0; i < 4; i++) {
            x.play(49);
        }
        check.due("one sounds until its last sample", 1, x::sounding);
        check.due("the last level", "5r", () -> levelAndState(x));
        check.due("the last sample", 5, x::step);
        check.due("none sounds", 0, x::sounding);
        check.due("free", "0f", () -> levelAndState(x));
        check.due("silence", 0, x::step);
    }

    private static void noRelease() {
        ToneGraph x = note(0, 0, 1000, 0);
        x.step();
        check.due("the voice", 0, () -> x.end(0));
        check.due("free at once", "0f", () -> levelAndState(x));
        check.due("no sample from then on", 0, x::step);
        check.none("it is over", () -> x.end(0));
        check.due("and leaves none to release", 0, x::endAll);
    }

    private static void releaseOfOneSample() {
        ToneGraph x = note(0, 0, 640, 1);
        x.end(0);
        check.due("it still sounds", "640r", () -> levelAndState(x));
        check.due("for one sample", 640, x::step);
        check.due("free", "0f", () -> levelAndState(x));
        check.due("silence", 0, x::step);
    }

    /** A note that is released at the level 0 still has all samples of its release. */
    private static void releaseOfNothing() {
        ToneGraph x = note(5, 0, 1000, 3);
        x.end(0);
        stages("released at 0", x, "0r 0r 0r 0f");
    }

    private static void releaseIsRoundedDown() {
        ToneGraph x = note(0, 0, 100, 7);
        x.end(0);
        stages("release 7", x, "100r 86r 72r 58r 43r 29r 15r 0f");
        ToneGraph y = note(0, 0, 1, 3);
        y.end(0);
        stages("from the level 1", y, "1r 1r 1r 0f");
    }
}
