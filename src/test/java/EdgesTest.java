/**
 * The promises 1 to 39 at their edges, a test for each promise in the order of the document: the least and the
 * greatest argument, one beyond each, empty and full, and every exception, also where two of them apply.
 */
final class EdgesTest {
    private static final Check CHECK = new Check();

    /** A call with one number that varies. */
    interface Use {
        Object of(int number);
    }

    public static void main(String[] args) {
        promise1();
        NodeEdges.all(CHECK);
        NoteEdges.all(CHECK);
        SampleEdges.all(CHECK);
        CHECK.close("EdgesTest");
    }

    /** All numbers just within the range are taken, all just outside it are refused with this exception. */
    static void range(Check check, String what, int least, int most, String refusal, Use use) {
        for (int bad : new int[] {Integer.MIN_VALUE, least - 1, most + 1, Integer.MAX_VALUE}) {
            check.due(what + " " + bad, "throws." + refusal, () -> use.of(bad));
        }
        for (int good : new int[] {least, most}) {
            String answer = Check.answerOf(() -> use.of(good));
            check.due(what + " " + good + " is taken and answers " + answer, false, () -> answer.startsWith("throws."));
        }
    }

    static void argument(String what, int least, int most, Use use) {
        range(CHECK, what, least, most, "IllegalArgumentException", use);
    }

    static void index(String what, int least, int most, Use use) {
        range(CHECK, what, least, most, "IndexOutOfBoundsException", use);
    }

    static void none(String what, int least, int most, Use use) {
        range(CHECK, what, least, most, "NoSuchElementException", use);
    }

    private static void promise1() {
        CHECK.due("1: one node", 1, () -> new ToneGraph().nodes());
        CHECK.due("1: that of the voices", 'v', () -> new ToneGraph().kindOf(0));
        CHECK.index("1: and no other", () -> new ToneGraph().kindOf(1));
        CHECK.due("1: which is the output", 0, () -> new ToneGraph().setOutput(0));
        CHECK.due("1: the wave s", 's', () -> new ToneGraph().setWave('s'));
        CHECK.due("1: the sustain 1000", 1000, () -> new ToneGraph().setEnvelope(0, 0, 0, 0));
        ToneGraph x = new ToneGraph();
        x.begin(0, 100);
        CHECK.due("1: the attack 0 and the decay 0", "1000s", () -> "" + x.levelOf(0) + x.stateOf(0));
        x.end(0);
        CHECK.due("1: the release 0", 'f', () -> x.stateOf(0));
        CHECK.due("1: two objects share nothing", "0 0", () -> new ToneGraph().sounding() + " " + new ToneGraph().stolen());
        CHECK.same("1: all of a new object is the same", Told.of(new ToneGraph()), Told.of(new ToneGraph()));
    }
}
