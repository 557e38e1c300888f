/** Promises 17 to 27: waves, envelopes and voices, by answers worked out by hand. */
final class NotesTest {
    private static final Check CHECK = new Check();

    public static void main(String[] args) {
        waves();
        middleOfWaves();
        keys();
        setEnvelope();
        envelopes();
        settingsHoldForLaterNotes();
        begin();
        samples();
        end();
        release();
        endAll();
        steal();
        stealReleasedByEndAll();
        noSuchVoice();
        CHECK.close("NotesTest");
    }

    /** Key 59 has the step 1936; the key 36 has the step 512, so that 64 of its samples are half a wave. */
    private static void waves() {
        ToneGraph x = new ToneGraph();
        CHECK.argument("no wave x", () -> x.setWave('x'));
        CHECK.argument("no wave S", () -> x.setWave('S'));
        CHECK.argument("no wave 0", () -> x.setWave((char) 0));
        CHECK.due("before, s", 's', () -> x.setWave('t'));
        CHECK.due("before, t", 't', () -> x.setWave('q'));
        CHECK.due("before, q", 'q', () -> x.setWave('q'));
        CHECK.due("still q", 'q', () -> x.setWave('s'));
        wave('s', new int[] {-1024, -1008, 0, 16, 1008, -1024});
        wave('q', new int[] {1000, 1000, -1000, -1000, -1000, 1000});
        wave('t', new int[] {-1024, -992, 1023, 991, -993, -1024});
        ToneGraph y = new ToneGraph();
        y.begin(1, 100);
        y.play(64);
        CHECK.due("68 times 63, divided by 32 and rounded down", 4284 / 32 - 1024, () -> y.heard(0));
        ToneGraph z = new ToneGraph();
        z.setWave('t');
        z.begin(59, 100);
        z.play(18);
        CHECK.due("r is 65535 minus p", (65535 - 32912) / 16 - 1024, () -> z.heard(0));
    }

    /** The value at the samples 0, 1, 64, 65, 127 and 128 of the key 36. */
    private static void wave(char sign, int[] due) {
        ToneGraph x = new ToneGraph();
        x.setWave(sign);
        x.begin(36, 100);
        CHECK.due(sign + " at 0", due[0], x::step);
        CHECK.due(sign + " at 1", due[1], x::step);
        x.play(62);
        CHECK.due("half a wave", 32768, () -> x.phaseOf(0));
        CHECK.due(sign + " at 64", due[2], x::step);
        CHECK.due(sign + " at 65", due[3], x::step);
        x.play(61);
        CHECK.due(sign + " at 127", due[4], x::step);
        CHECK.due("the phase starts again", 0, () -> x.phaseOf(0));
        CHECK.due(sign + " at 128", due[5], x::step);
    }

    /** The last phase of the first half: 121 times 5687, modulo 65536, is 32767. */
    private static void middleOfWaves() {
        for (char sign : new char[] {'s', 'q', 't'}) {
            ToneGraph x = new ToneGraph();
            x.setWave(sign);
            x.begin(11, 100);
            for (int i = 0; i < 88; i++) {
                x.play(64);
            }
            x.play(55);
            CHECK.due("phase", 32767, () -> x.phaseOf(0));
            CHECK.due(sign + " at the phase 32767", sign == 's' ? -1 : sign == 'q' ? 1000 : 1023, x::step);
        }
    }

    private static void keys() {
        int[] steps = {64, 68, 72, 76, 81, 85, 90, 96, 102, 108, 114, 121};
        for (int key = 0; key < 60; key++) {
            ToneGraph x = new ToneGraph();
            x.begin(key, 100);
            CHECK.due("phase at first", 0, () -> x.phaseOf(0));
            x.play(40);
            int due = steps[key % 12] * (1 << key / 12) * 40 % 65536;
            CHECK.due("phase of key " + key + " behind 40 samples", due, () -> x.phaseOf(0));
        }
    }

    private static void setEnvelope() {
        ToneGraph x = new ToneGraph();
        int[] most = {200, 200, 1000, 200};
        for (int i = 0; i < 4; i++) {
            int[] low = new int[4];
            int[] high = new int[4];
            low[i] = -1;
            high[i] = most[i] + 1;
            CHECK.argument("-1 at " + i, () -> x.setEnvelope(low[0], low[1], low[2], low[3]));
            CHECK.argument("too much at " + i, () -> x.setEnvelope(high[0], high[1], high[2], high[3]));
        }
        CHECK.due("the most", 1000, () -> x.setEnvelope(200, 200, 1000, 200));
        CHECK.due("the least", 1000, () -> x.setEnvelope(0, 0, 0, 0));
        CHECK.due("the sustain before", 0, () -> x.setEnvelope(1, 2, 345, 4));
        CHECK.due("the sustain before", 345, () -> x.setEnvelope(1, 2, 3, 4));
    }

    private static void envelopes() {
        levels("attack 3, decay 3, sustain 500", new int[] {3, 3, 500, 0}, "0a 333a 666a 1000d 834d 667d 500s 500s");
        levels("attack 0, decay 2", new int[] {0, 2, 1, 0}, "1000d 501d 1s 1s");
        levels("attack 2, decay 0", new int[] {2, 0, 0, 0}, "0a 500a 0s 0s");
        levels("attack 1, decay 1", new int[] {1, 1, 700, 0}, "0a 1000d 700s");
        levels("neither", new int[] {0, 0, 123, 0}, "123s 123s");
    }

    private static void levels(String what, int[] e, String due) {
        ToneGraph x = new ToneGraph();
        x.setEnvelope(e[0], e[1], e[2], e[3]);
        x.begin(5, 100);
        for (String each : due.split(" ")) {
            CHECK.due(what + ": " + each, each, () -> "" + x.levelOf(0) + x.stateOf(0));
            x.step();
        }
    }

    private static void settingsHoldForLaterNotes() {
        ToneGraph x = new ToneGraph();
        x.begin(0, 100);
        x.setWave('q');
        x.setEnvelope(0, 0, 500, 3);
        CHECK.due("the first note keeps its wave and its envelope", -1024, x::step);
        x.begin(0, 100);
        CHECK.due("the second one has the new ones", -1022 + 500, x::step);
        CHECK.due("level of the first", 1000, () -> x.levelOf(0));
        CHECK.due("level of the second", 500, () -> x.levelOf(1));
        x.end(0);
        CHECK.due("the first has its own release", 'f', () -> x.stateOf(0));
        x.end(0);
        CHECK.due("the second has its own release", 'r', () -> x.stateOf(1));
    }

    private static void begin() {
        ToneGraph x = new ToneGraph();
        CHECK.argument("key -1", () -> x.begin(-1, 1));
        CHECK.argument("key 60", () -> x.begin(60, 1));
        CHECK.argument("velocity 0", () -> x.begin(0, 0));
        CHECK.argument("velocity 101", () -> x.begin(0, 101));
        CHECK.due("no note", 0, x::sounding);
        CHECK.due("key 0", 0, () -> x.begin(0, 1));
        CHECK.due("key 59", 1, () -> x.begin(59, 100));
        CHECK.due("the same key again", 2, () -> x.begin(59, 100));
        CHECK.due("three sound", 3, x::sounding);
        CHECK.due("key of 0", 0, () -> x.keyOf(0));
        CHECK.due("key of 2", 59, () -> x.keyOf(2));
        CHECK.state("key of 3", () -> x.keyOf(3));
        x.end(0);
        CHECK.due("two sound", 2, x::sounding);
        CHECK.due("the free voice with the lowest number", 0, () -> x.begin(7, 50));
        CHECK.due("the next one", 3, () -> x.begin(8, 50));
        CHECK.due("none stolen", 0, x::stolen);
    }

    private static void samples() {
        ToneGraph x = new ToneGraph();
        x.setEnvelope(0, 0, 999, 0);
        x.begin(0, 99);
        CHECK.due("-1024 times 999 by 1000 is -1022; times 99 by 100 is -1011", -1011, x::step);
        x.begin(3, 1);
        CHECK.due("the sum of -1022 and -1022, each by itself", -1009 - 10, x::step);
        x.endAll();
        CHECK.due("silence", 0, x::step);
    }

    private static void end() {
        ToneGraph x = new ToneGraph();
        x.setEnvelope(0, 0, 1000, 50);
        CHECK.argument("key -1", () -> x.end(-1));
        CHECK.argument("key 60", () -> x.end(60));
        CHECK.none("no note", () -> x.end(5));
        x.begin(4, 100);
        x.begin(5, 100);
        x.begin(5, 100);
        CHECK.none("no such note", () -> x.end(6));
        CHECK.due("the one that began first", 1, () -> x.end(5));
        CHECK.due("then the other", 2, () -> x.end(5));
        CHECK.none("all are released", () -> x.end(5));
        CHECK.due("still sounding", 3, x::sounding);
        ToneGraph y = new ToneGraph();
        y.begin(1, 100);
        y.begin(2, 100);
        y.end(1);
        y.begin(2, 100);
        CHECK.due("the one that began first has the higher number", 1, () -> y.end(2));
        CHECK.due("the one that began later", 0, () -> y.end(2));
        CHECK.none("none left", () -> y.end(2));
    }

    private static void release() {
        ToneGraph x = new ToneGraph();
        x.setEnvelope(4, 0, 800, 3);
        x.begin(12, 100);
        x.play(3);
        CHECK.due("the level of the next sample", 750, () -> x.levelOf(0));
        x.end(12);
        CHECK.due("released", "750r384", () -> "" + x.levelOf(0) + x.stateOf(0) + x.phaseOf(0));
        x.step();
        CHECK.due("750 minus 250", "500r512", () -> "" + x.levelOf(0) + x.stateOf(0) + x.phaseOf(0));
        x.step();
        CHECK.due("750 minus 500", "250r640", () -> "" + x.levelOf(0) + x.stateOf(0) + x.phaseOf(0));
        CHECK.due("still sounding", 1, x::sounding);
        CHECK.due("the last sample: -1004 times 250", -251, x::step);
        CHECK.due("free", "0f", () -> "" + x.levelOf(0) + x.stateOf(0));
        CHECK.due("none sounds", 0, x::sounding);
        CHECK.state("no phase", () -> x.phaseOf(0));
        CHECK.state("no key", () -> x.keyOf(0));
        ToneGraph y = new ToneGraph();
        y.setEnvelope(0, 0, 100, 7);
        y.begin(0, 100);
        y.end(0);
        y.step();
        CHECK.due("100 minus 100 by 7, rounded down", 86, () -> y.levelOf(0));
        ToneGraph z = new ToneGraph();
        z.setEnvelope(10, 0, 100, 2);
        z.begin(0, 100);
        z.end(0);
        CHECK.due("released at once, at the level 0", "0r", () -> "" + z.levelOf(0) + z.stateOf(0));
        z.play(2);
        CHECK.due("free", 'f', () -> z.stateOf(0));
    }

    private static void endAll() {
        ToneGraph x = new ToneGraph();
        CHECK.due("none", 0, x::endAll);
        x.begin(1, 100);
        x.setEnvelope(0, 0, 1000, 2);
        x.begin(2, 100);
        x.begin(3, 100);
        x.end(2);
        CHECK.due("two are not released", 2, x::endAll);
        CHECK.due("none is left", 0, x::endAll);
        CHECK.due("one has no release", 'f', () -> x.stateOf(0));
        CHECK.due("released before", 'r', () -> x.stateOf(1));
        CHECK.due("released now", 'r', () -> x.stateOf(2));
    }

    private static void steal() {
        ToneGraph x = new ToneGraph();
        x.setEnvelope(0, 0, 1000, 100);
        for (int key = 0; key < 4; key++) {
            x.begin(key, 100);
        }
        x.play(2);
        x.end(2);
        x.end(1);
        CHECK.due("released first", 2, () -> x.begin(10, 100));
        CHECK.due("stolen once", 1, x::stolen);
        CHECK.due("the new note starts", "10s01000", () -> "" + x.keyOf(2) + x.stateOf(2) + x.phaseOf(2) + x.levelOf(2));
        CHECK.due("released next", 1, () -> x.begin(11, 100));
        CHECK.due("none is released: began first", 0, () -> x.begin(12, 100));
        CHECK.due("began next", 3, () -> x.begin(13, 100));
        CHECK.due("then the first one again", 2, () -> x.begin(14, 100));
        CHECK.due("stolen five times", 5, x::stolen);
        CHECK.none("the note that was stolen is over", () -> x.end(10));
        x.end(13);
        CHECK.due("the released one, though it began last but one", 3, () -> x.begin(15, 100));
        x.end(15);
        x.play(64);
        x.play(36);
        CHECK.due("free by now", 3, () -> x.begin(16, 100));
        CHECK.due("not stolen", 6, x::stolen);
    }

    private static void stealReleasedByEndAll() {
        ToneGraph x = new ToneGraph();
        x.setEnvelope(0, 0, 1000, 100);
        for (int key = 0; key < 4; key++) {
            x.begin(key, 100);
        }
        x.end(3);
        x.endAll();
        CHECK.due("released by itself", 3, () -> x.begin(20, 100));
        CHECK.due("the lowest number", 0, () -> x.begin(21, 100));
        CHECK.due("the next one", 1, () -> x.begin(22, 100));
        CHECK.due("the next one", 2, () -> x.begin(23, 100));
    }

    private static void noSuchVoice() {
        ToneGraph x = new ToneGraph();
        for (int bad = -1; bad <= 4; bad += 5) {
            int voice = bad;
            CHECK.index("stateOf " + bad, () -> x.stateOf(voice));
            CHECK.index("keyOf " + bad, () -> x.keyOf(voice));
            CHECK.index("levelOf " + bad, () -> x.levelOf(voice));
            CHECK.index("phaseOf " + bad, () -> x.phaseOf(voice));
        }
        CHECK.due("stateOf 3", 'f', () -> x.stateOf(3));
        CHECK.state("keyOf 3", () -> x.keyOf(3));
        CHECK.due("levelOf 3", 0, () -> x.levelOf(3));
        CHECK.state("phaseOf 3", () -> x.phaseOf(3));
    }
}
