/** The terms "Voices" and "Blocks", and the 512 calls for which an object is used. */
final class VoiceTerms {
    private static Check check;

    private VoiceTerms() {
    }

    static void all(Check given) {
        check = given;
        fourVoices();
        settingsOfANote();
        samplesAreRounded();
        noVoicePlays();
        allVoicesPlay();
        lowestFreeVoice();
        freeVoiceAheadOfReleased();
        stealsTheFirstReleased();
        stealsTheFirstBegun();
        stealsAmongAllReleased();
        aStolenNoteIsOver();
        aStolenVoiceStartsAnew();
        aReleaseStartsAnew();
        blocksOfAnyLength();
        blocksOfEachKind();
        blocksEndWhereverTheyAreTold();
        lastOfManyCalls();
        manySamples();
    }

    private static ToneGraph four(int release) {
        ToneGraph x = new ToneGraph();
        x.setEnvelope(0, 0, 1000, release);
        for (int key = 0; key < 4; key++) {
            x.begin(key, 100);
        }
        return x;
    }

    private static void fourVoices() {
        ToneGraph x = new ToneGraph();
        for (int voice = 0; voice < 4; voice++) {
            int number = voice;
            check.due("free at first", 'f', () -> x.stateOf(number));
        }
        for (int voice = 0; voice < 4; voice++) {
            int number = voice;
            check.due("the lowest free voice", number, () -> x.begin(20, 100));
            check.due("so many sound", number + 1, x::sounding);
        }
        check.due("none was stolen", 0, x::stolen);
        check.due("a fifth note steals", 0, () -> x.begin(21, 100));
        check.due("one was stolen", 1, x::stolen);
        check.due("four sound", 4, x::sounding);
        check.index("no voice 4", () -> x.stateOf(4));
    }

    /** The wave and the envelope that were set when the note began, until it is over. */
    private static void settingsOfANote() {
        ToneGraph x = new ToneGraph();
        x.setWave('q');
        x.setEnvelope(0, 0, 300, 3);
        x.begin(0, 100);
        x.setWave('s');
        x.setEnvelope(9, 9, 900, 0);
        check.due("wave and level", 300, x::step);
        check.due("state", 's', () -> x.stateOf(0));
        x.end(0);
        check.due("release 3, sample 0", 300, x::step);
        check.due("release 3, sample 1", 200, x::step);
        check.due("release 3, sample 2", 100, x::step);
        check.due("release 3, over", 'f', () -> x.stateOf(0));
        x.begin(0, 100);
        check.due("the next note has the new envelope", 'a', () -> x.stateOf(0));
        x.play(9);
        check.due("and the new wave: 576 by 32 is 18", 18 - 1024, x::step);
    }

    /** Divided by 1000 and rounded towards 0, and this times the velocity, divided by 100 and rounded towards 0. */
    private static void samplesAreRounded() {
        int[][] due = {{999, 1, -10}, {1, 100, -1}, {1, 99, 0}, {1000, 1, -10}, {1000, 100, -1024}, {500, 99, -506},
            {0, 100, 0}, {97, 7, -6}};
        for (int[] each : due) {
            ToneGraph x = new ToneGraph();
            x.setEnvelope(0, 0, each[0], 0);
            x.begin(0, each[1]);
            check.due("-1024 at the level " + each[0] + " with " + each[1], each[2], x::step);
        }
        ToneGraph y = Start.steady(99);
        y.begin(0, 1);
        check.due("99 percent of 1 is 0", 99, y::step);
    }

    private static void noVoicePlays() {
        ToneGraph x = new ToneGraph();
        check.due("silence", 0, () -> x.play(64));
        check.due("the output of the voices", 0, () -> x.outputOf(0));
        x.begin(0, 100);
        x.step();
        x.end(0);
        check.due("silence again", 0, x::step);
        check.due("the output of the voices again", 0, () -> x.outputOf(0));
    }

    private static void allVoicesPlay() {
        ToneGraph x = four(0);
        check.due("the sum of four", -4096, x::step);
        x.end(2);
        x.end(0);
        check.due("the sum of two: 68 and 76 by 32 are 2 each", -2 * 1022, x::step);
    }

    private static void lowestFreeVoice() {
        ToneGraph x = four(0);
        x.end(3);
        x.end(1);
        check.due("1 is free", 1, () -> x.begin(9, 100));
        check.due("3 is free", 3, () -> x.begin(9, 100));
        check.due("none is free", 0, () -> x.begin(9, 100));
        check.due("one was stolen", 1, x::stolen);
    }

    /** A released note is not stolen while a voice is free, even one with a higher number. */
    private static void freeVoiceAheadOfReleased() {
        ToneGraph x = four(2);
        x.end(3);
        x.step();
        x.end(0);
        x.step();
        check.due("3 became free", "fr", () -> "" + x.stateOf(3) + x.stateOf(0));
        check.due("the free one", 3, () -> x.begin(9, 100));
        check.due("none was stolen", 0, x::stolen);
        check.due("the released one", 0, () -> x.begin(9, 100));
        check.due("one was stolen", 1, x::stolen);
    }

    private static void stealsTheFirstReleased() {
        ToneGraph x = four(200);
        x.end(3);
        x.play(5);
        x.end(1);
        check.due("released first, though it began last", 3, () -> x.begin(9, 100));
        check.due("released next", 1, () -> x.begin(9, 100));
        check.due("none released: began first", 0, () -> x.begin(9, 100));
        ToneGraph y = four(200);
        y.end(0);
        check.due("the one that is released", 0, () -> y.begin(9, 100));
        y.endAll();
        check.due("endAll goes by the numbers: 0, though it began last", 0, () -> y.begin(9, 100));
        check.due("then 1", 1, () -> y.begin(9, 100));
        check.due("then 2", 2, () -> y.begin(9, 100));
        check.due("then 3", 3, () -> y.begin(9, 100));
        check.due("then 0, which began first", 0, () -> y.begin(9, 100));
    }

    private static void stealsTheFirstBegun() {
        ToneGraph x = four(0);
        x.end(1);
        x.begin(1, 100);
        for (int due : new int[] {0, 2, 3, 1, 0}) {
            check.due("the note that began first", due, () -> x.begin(9, 100));
        }
        check.due("five were stolen", 5, x::stolen);
    }

    private static void stealsAmongAllReleased() {
        ToneGraph x = four(100);
        for (int key : new int[] {2, 0, 3, 1}) {
            x.end(key);
        }
        for (int due : new int[] {2, 0, 3, 1}) {
            check.due("in the order of the releases", due, () -> x.begin(9, 100));
        }
        check.due("four sound", 4, x::sounding);
    }

    private static void aStolenNoteIsOver() {
        ToneGraph x = four(100);
        x.begin(30, 100);
        check.none("the key 0 is over", () -> x.end(0));
        check.due("the voice has the new key", 30, () -> x.keyOf(0));
        check.due("the new note can be released", 0, () -> x.end(30));
        check.due("the others too", 3, x::endAll);
    }

    private static void aStolenVoiceStartsAnew() {
        ToneGraph x = four(10);
        x.setEnvelope(2, 0, 500, 0);
        x.play(3);
        x.end(2);
        x.play(4);
        check.due("stolen in its release", 2, () -> x.begin(50, 1));
        check.due("from the attack on", "0a0", () -> "" + x.levelOf(2) + x.stateOf(2) + x.phaseOf(2));
        x.step();
        check.due("its own attack", "500a", () -> "" + x.levelOf(2) + x.stateOf(2));
        x.play(20);
        check.due("it is not released", "500s", () -> "" + x.levelOf(2) + x.stateOf(2));
        check.due("its own release", 2, () -> x.end(50));
        check.due("free", 'f', () -> x.stateOf(2));
    }

    /** A voice whose note before was released, too, has all samples of the new release. */
    private static void aReleaseStartsAnew() {
        ToneGraph x = new ToneGraph();
        x.setEnvelope(0, 0, 800, 4);
        for (int i = 0; i < 3; i++) {
            x.begin(0, 100);
            x.play(2);
            x.end(0);
            check.due("released at 800", "800r", () -> "" + x.levelOf(0) + x.stateOf(0));
            x.play(3);
            check.due("the last sample", "200r", () -> "" + x.levelOf(0) + x.stateOf(0));
            x.step();
            check.due("free", "0f", () -> "" + x.levelOf(0) + x.stateOf(0));
        }
    }

    /** A circle by delays of these lengths, and a note that ends within the samples. */
    private static ToneGraph delays(int... lengths) {
        ToneGraph x = new ToneGraph();
        x.addFilter(50, 9, 20);
        x.connect(0, 1, 100);
        for (int i = 0; i < lengths.length; i++) {
            int delay = x.addDelay(lengths[i], 70 - 110 * (i % 2));
            x.connect(1, delay, 80);
            x.connect(delay, 1, 60);
        }
        x.setOutput(1);
        x.setEnvelope(7, 7, 400, 30);
        x.begin(47, 100);
        x.begin(59, 60);
        x.play(13);
        x.end(59);
        return x;
    }

    /** Not longer than the length of any delay, nor than 64: 64 samples at once and one by one are the same. */
    private static void blocksOfAnyLength() {
        int[][] all = {{}, {1}, {2}, {59}, {60}, {60, 59}, {59, 60}, {1, 60}, {33, 32, 60}};
        for (int[] lengths : all) {
            ToneGraph one = delays(lengths);
            ToneGraph other = delays(lengths);
            int shortest = 64;
            for (int length : lengths) {
                shortest = Math.min(shortest, length);
            }
            int due = shortest;
            check.due("longestBlock", due, one::longestBlock);
            for (int i = 0; i < 64; i++) {
                one.step();
            }
            other.play(64);
            for (int ago = 63; ago >= 0; ago--) {
                int some = ago;
                check.due(lengths.length + " delays, heard " + ago, one.heard(ago), () -> other.heard(some));
            }
            check.same("all the same", Told.of(one), Told.of(other));
        }
    }

    /** The longest block of all, 64, with gains, filters and buses in a full board. */
    private static void blocksOfEachKind() {
        for (int size = 63; size <= 64; size++) {
            ToneGraph one = withoutDelays();
            ToneGraph other = withoutDelays();
            check.due("longestBlock", 64, one::longestBlock);
            for (int i = 0; i < size; i++) {
                one.step();
            }
            int some = size;
            check.due("the last of " + size, one.heard(0), () -> other.play(some));
            check.same("all the same", Told.of(one), Told.of(other));
        }
    }

    private static ToneGraph withoutDelays() {
        ToneGraph x = new ToneGraph();
        for (int node = 1; node <= 9; node += 3) {
            x.addBus(100 * node);
            x.addFilter(50, -20, node);
            x.addGain(100 + node);
        }
        for (int node = 1; node <= 9; node++) {
            x.connect(node - 1, node, 100);
        }
        x.setOutput(9);
        x.setEnvelope(20, 20, 700, 30);
        x.begin(40, 100);
        x.begin(59, 90);
        return x;
    }

    /** Wherever a block ends, the next one goes on as if there were no end. */
    private static void blocksEndWhereverTheyAreTold() {
        String due = Told.of(playedBy(64));
        for (int size : new int[] {1, 2, 31, 32, 33, 63}) {
            check.same("by " + size, due, Told.of(playedBy(size)));
        }
        for (int size = 1; size <= 64; size++) {
            int most = size;
            ToneGraph x = delays(5, 11);
            check.due("ahead by " + size, x.ahead(40), () -> x.aheadByBlocks(40, most));
        }
    }

    private static ToneGraph playedBy(int size) {
        ToneGraph x = delays(5, 11);
        for (int left = 128; left > 0; left -= size) {
            x.play(Math.min(size, left));
        }
        return x;
    }

    /** An object is used for at most 512 calls: the last one still answers as it should. */
    private static void lastOfManyCalls() {
        ToneGraph x = new ToneGraph();
        for (int i = 0; i < 511; i++) {
            x.begin(i % 60, 1 + i % 100);
        }
        check.due("511 notes", 507, x::stolen);
        ToneGraph y = new ToneGraph();
        for (int i = 0; i < 511; i++) {
            y.setEnvelope(i % 201, i % 201, i, i % 201);
        }
        check.due("511 envelopes", 510, () -> y.setEnvelope(0, 0, 0, 0));
        ToneGraph z = new ToneGraph();
        z.addGain(1);
        for (int i = 0; i < 255; i++) {
            z.connect(0, 1, 1 + i % 100);
            z.disconnect(0, 1);
        }
        check.due("255 wires, none left", 1, () -> z.connect(0, 1, 100));
    }

    private static void manySamples() {
        ToneGraph x = new ToneGraph();
        x.setWave('q');
        x.begin(0, 100);
        for (int i = 0; i < 507; i++) {
            x.play(64);
        }
        check.due("time", 507 * 64, x::time);
        check.due("energy", 507 * 64 * 1000000L, x::energy);
        check.due("call 512", 1000000.0, x::meanEnergy);
    }
}
