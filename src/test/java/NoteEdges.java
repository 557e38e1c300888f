/** The promises 17 to 27 at their edges. */
final class NoteEdges {
    private static Check check;

    private NoteEdges() {
    }

    static void all(Check given) {
        check = given;
        promise17();
        promise18();
        promise19();
        promise20();
        promise20WhichNote();
        promise21();
        promise22();
        promise23();
        promise24();
        promise25();
        promise26();
        eachVoiceByItself();
        promise27();
    }

    /** Every sign but three is refused. */
    private static void promise17() {
        ToneGraph x = new ToneGraph();
        int taken = 0;
        int refused = 0;
        for (char sign = 0; sign < 256; sign++) {
            char wave = sign;
            boolean good = sign == 's' || sign == 'q' || sign == 't';
            if (good) {
                taken++;
            } else {
                check.argument("17: the sign " + (int) sign, () -> x.setWave(wave));
                refused++;
            }
        }
        check.same("17: signs", "3 253", taken + " " + refused);
        check.argument("17: the last sign", () -> x.setWave('\uffff'));
        check.argument("17: a sign whose low half is that of s", () -> x.setWave((char) ('s' + 256)));
        check.due("17: still s", 's', () -> x.setWave('s'));
        check.due("17: s before", 's', () -> x.setWave('t'));
        check.due("17: t before", 't', () -> x.setWave('t'));
        check.due("17: t before again", 't', () -> x.setWave('q'));
        check.due("17: q before", 'q', () -> x.setWave('s'));
    }

    private static void promise18() {
        ToneGraph x = new ToneGraph();
        EdgesTest.argument("18: attack", 0, 200, attack -> x.setEnvelope(attack, 1, 11, 1));
        EdgesTest.argument("18: decay", 0, 200, decay -> x.setEnvelope(1, decay, 12, 1));
        EdgesTest.argument("18: sustain", 0, 1000, sustain -> x.setEnvelope(1, 1, sustain, 1));
        EdgesTest.argument("18: release", 0, 200, release -> x.setEnvelope(1, 1, 13, release));
        check.argument("18: all", () -> x.setEnvelope(-1, 201, 1001, -1));
        check.due("18: the sustain before, not one of those refused", 13, () -> x.setEnvelope(200, 200, 1000, 200));
        check.due("18: the greatest", 1000, () -> x.setEnvelope(0, 0, 0, 0));
        check.due("18: the least", 0, () -> x.setEnvelope(0, 0, 500, 0));
        check.argument("18: a refused one", () -> x.setEnvelope(5, 5, 77, 201));
        x.begin(0, 100);
        check.due("18: sets nothing", "500s", () -> "" + x.levelOf(0) + x.stateOf(0));
        check.due("18: not the sustain either", 500, () -> x.setEnvelope(0, 0, 500, 0));
    }

    private static void promise19() {
        ToneGraph x = new ToneGraph();
        EdgesTest.argument("19: key", 0, 59, key -> x.begin(key, 50));
        EdgesTest.argument("19: velocity", 1, 100, velocity -> x.begin(30, velocity));
        check.argument("19: both", () -> x.begin(60, 101));
        check.due("19: no note by those refused", "4 0", () -> x.sounding() + " " + x.stolen());
        check.argument("19: refused when it would steal, too", () -> x.begin(60, 50));
        check.argument("19: velocity 0 when it would steal", () -> x.begin(0, 0));
        check.due("19: nothing is stolen", "0 0", () -> x.stolen() + " " + x.keyOf(0));
        check.due("19: the number of the voice", 0, () -> x.begin(59, 100));
    }

    private static void promise20() {
        ToneGraph x = new ToneGraph();
        for (int bad : new int[] {Integer.MIN_VALUE, -1, 60, Integer.MAX_VALUE}) {
            check.argument("20: key " + bad + ", without notes", () -> x.end(bad));
        }
        for (int key = 0; key < 60; key++) {
            int number = key;
            check.none("20: no note of the key " + key, () -> x.end(number));
        }
        x.setEnvelope(0, 0, 1000, 10);
        x.begin(0, 100);
        x.begin(59, 100);
        check.argument("20: key -1", () -> x.end(-1));
        check.argument("20: key 60", () -> x.end(60));
        check.none("20: key 1", () -> x.end(1));
        check.due("20: key 59", 1, () -> x.end(59));
        check.due("20: key 0", 0, () -> x.end(0));
        check.none("20: released already", () -> x.end(0));
        x.play(10);
        check.none("20: free", () -> x.end(0));
    }

    /** The note that began first of those that have the key and are not released. */
    private static void promise20WhichNote() {
        ToneGraph x = new ToneGraph();
        x.setEnvelope(0, 0, 1000, 50);
        for (int i = 0; i < 4; i++) {
            x.begin(7, 100);
        }
        x.begin(7, 100);
        check.due("20: 0 has the last note, so 1", 1, () -> x.end(7));
        check.due("20: the same key again, in 1", 1, () -> x.begin(7, 100));
        for (int due : new int[] {2, 3, 0, 1}) {
            check.due("20: in the order in which they began", due, () -> x.end(7));
        }
        check.none("20: all are released", () -> x.end(7));
        check.due("20: all sound", 4, x::sounding);
    }

    private static void promise21() {
        ToneGraph x = new ToneGraph();
        check.due("21: no note", 0, x::endAll);
        for (int key = 0; key < 4; key++) {
            x.begin(key, 100);
        }
        check.due("21: four without a release", 4, x::endAll);
        check.due("21: all are free", 0, x::sounding);
        check.due("21: none is left", 0, x::endAll);
        x.setEnvelope(0, 0, 1000, 1);
        x.begin(59, 1);
        check.due("21: one", 1, x::endAll);
        check.due("21: which still sounds", "1r", () -> "" + x.sounding() + x.stateOf(0));
        check.due("21: it is released already", 0, x::endAll);
        x.step();
        check.due("21: it is free", "0f", () -> "" + x.sounding() + x.stateOf(0));
        releasedAgain();
    }

    /** A note that was released before goes on with its own release. */
    private static void releasedAgain() {
        ToneGraph x = new ToneGraph();
        x.setEnvelope(0, 0, 1000, 4);
        x.begin(0, 100);
        x.begin(1, 100);
        x.end(1);
        x.step();
        check.due("21: the other one", 1, x::endAll);
        check.due("21: levels", "1000 750", () -> x.levelOf(0) + " " + x.levelOf(1));
    }

    private static void promise22() {
        ToneGraph x = new ToneGraph();
        check.due("22: none", 0, x::sounding);
        for (int notes = 1; notes <= 6; notes++) {
            int due = Math.min(4, notes);
            x.begin(notes, 100);
            check.due("22: " + notes + " begun", due, x::sounding);
        }
        x.end(6);
        check.due("22: one over", 3, x::sounding);
        ToneGraph y = new ToneGraph();
        y.setEnvelope(200, 0, 0, 2);
        y.begin(0, 1);
        check.due("22: a note of the level 0 sounds", 1, y::sounding);
        y.end(0);
        y.step();
        check.due("22: a released one sounds", 1, y::sounding);
        y.step();
        check.due("22: it is over", 0, y::sounding);
    }

    private static void promise23() {
        ToneGraph x = new ToneGraph();
        EdgesTest.index("23: voice", 0, 3, x::stateOf);
        x.setEnvelope(1, 1, 5, 1);
        x.begin(0, 100);
        check.due("23: in the attack", 'a', () -> x.stateOf(0));
        x.step();
        check.due("23: in the decay", 'd', () -> x.stateOf(0));
        x.step();
        check.due("23: behind both", 's', () -> x.stateOf(0));
        x.play(64);
        check.due("23: still", 's', () -> x.stateOf(0));
        x.end(0);
        check.due("23: released", 'r', () -> x.stateOf(0));
        x.step();
        check.due("23: free", 'f', () -> x.stateOf(0));
        x.begin(0, 100);
        x.end(0);
        check.due("23: released in the attack", 'r', () -> x.stateOf(0));
    }

    private static void promise24() {
        ToneGraph x = new ToneGraph();
        for (int voice = 0; voice < 4; voice++) {
            int number = voice;
            check.state("24: free at first", () -> x.keyOf(number));
        }
        x.setEnvelope(0, 0, 1000, 1);
        for (int key : new int[] {0, 59, 0, 58}) {
            x.begin(key, 100);
        }
        EdgesTest.index("24: voice", 0, 3, x::keyOf);
        check.due("24: keys", "0 59 0 58", () -> x.keyOf(0) + " " + x.keyOf(1) + " " + x.keyOf(2) + " " + x.keyOf(3));
        x.end(59);
        check.due("24: a released note has its key", 59, () -> x.keyOf(1));
        x.step();
        check.state("24: free", () -> x.keyOf(1));
        check.index("24: no voice 4", () -> x.keyOf(4));
    }

    private static void promise25() {
        ToneGraph x = new ToneGraph();
        EdgesTest.index("25: voice", 0, 3, x::levelOf);
        check.due("25: 0 at first", 0, () -> x.levelOf(3));
        x.begin(0, 100);
        check.due("25: the greatest", 1000, () -> x.levelOf(0));
        check.due("25: the others", 0, () -> x.levelOf(1));
        x.end(0);
        check.due("25: 0 if it is free", 0, () -> x.levelOf(0));
        x.setEnvelope(2, 0, 1000, 0);
        x.begin(0, 100);
        check.due("25: the level of the next sample", 0, () -> x.levelOf(0));
        check.due("25: looking ahead leaves it", 0, () -> x.ahead(40) * 0 + x.levelOf(0));
        x.step();
        check.due("25: then", 500, () -> x.levelOf(0));
    }

    private static void promise26() {
        ToneGraph x = new ToneGraph();
        for (int voice = 0; voice < 4; voice++) {
            int number = voice;
            check.state("26: free at first", () -> x.phaseOf(number));
        }
        for (int i = 0; i < 4; i++) {
            x.begin(4, 100);
        }
        EdgesTest.index("26: voice", 0, 3, x::phaseOf);
        x.play(64);
        check.due("26: 81 times 64", 5184, () -> x.phaseOf(3));
        x.end(4);
        check.state("26: free", () -> x.phaseOf(0));
        check.index("26: no voice -1", () -> x.phaseOf(-1));
        ToneGraph y = new ToneGraph();
        y.begin(11, 100);
        for (int i = 0; i < 8; i++) {
            y.play(64);
        }
        y.play(29);
        check.due("26: 541 times 121", 65461, () -> y.phaseOf(0));
        y.step();
        check.due("26: 65582, modulo 65536", 46, () -> y.phaseOf(0));
    }

    /** Which of the other voices are free does not matter, nor for the level and the state. */
    private static void eachVoiceByItself() {
        for (int free = 0; free < 16; free++) {
            ToneGraph x = new ToneGraph();
            for (int voice = 0; voice < 4; voice++) {
                x.begin(voice, 100);
            }
            x.step();
            for (int voice = 0; voice < 4; voice++) {
                if ((free >> voice & 1) == 1) {
                    x.end(voice);
                }
            }
            int[] steps = {64, 68, 72, 76};
            for (int voice = 0; voice < 4; voice++) {
                int number = voice;
                boolean over = (free >> voice & 1) == 1;
                String refusal = "throws.IllegalStateException";
                check.due("23: the voice " + voice + " alone", over ? 'f' : 's', () -> x.stateOf(number));
                check.due("24: the voice " + voice + " alone", over ? refusal : number, () -> x.keyOf(number));
                check.due("25: the voice " + voice + " alone", over ? 0 : 1000, () -> x.levelOf(number));
                check.due("26: the voice " + voice + " alone", over ? refusal : steps[number], () -> x.phaseOf(number));
            }
            check.due("22: the others sound", 4 - Integer.bitCount(free), x::sounding);
        }
    }

    private static void promise27() {
        ToneGraph x = new ToneGraph();
        check.due("27: none", 0, x::stolen);
        for (int i = 0; i < 4; i++) {
            x.begin(i, 100);
        }
        check.due("27: none while a voice is free", 0, x::stolen);
        x.begin(4, 100);
        check.due("27: one", 1, x::stolen);
        x.endAll();
        x.begin(5, 100);
        check.due("27: a free voice is not stolen", 1, x::stolen);
        x.setEnvelope(0, 0, 1000, 9);
        for (int i = 0; i < 3; i++) {
            x.begin(i, 100);
        }
        x.endAll();
        x.begin(6, 100);
        check.due("27: 0 had no release, and is free", "0 1", () -> x.keyOf(0) - 6 + " " + x.stolen());
        x.begin(7, 100);
        check.due("27: a released note is stolen too", 2, x::stolen);
    }
}
