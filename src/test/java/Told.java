/** Tells all that can be seen of a ToneGraph, and what comes after, as one text: two graphs that tell the same are the same. */
final class Told {
    private final ToneGraph x;
    private final StringBuilder text = new StringBuilder();

    private Told(ToneGraph x) {
        this.x = x;
    }

    /** Uses the graph up: some 330 calls, of which the last ones change it. */
    static String of(ToneGraph x) {
        Told told = new Told(x);
        told.nodes();
        told.voices();
        told.samples();
        told.settings();
        told.whatComesAfter();
        return told.text.toString();
    }

    private void add(String what, Check.Call call) {
        text.append(what).append(' ').append(Check.answerOf(call)).append('\n');
    }

    private void nodes() {
        add("nodes", x::nodes);
        add("longestBlock", x::longestBlock);
        for (int n = 0; n < x.nodes(); n++) {
            int node = n;
            add("nodeAt " + n, () -> x.nodeAt(node));
            add("kindOf " + n, () -> x.kindOf(node));
            add("outputOf " + n, () -> x.outputOf(node));
            int wires = x.wires(node);
            for (int w = 0; w < wires; w++) {
                int wire = w;
                add("wireFrom " + n + " " + w, () -> x.wireFrom(node, wire));
                add("wirePercent " + n + " " + w, () -> x.wirePercent(node, wire));
            }
        }
    }

    private void voices() {
        add("sounding", x::sounding);
        add("stolen", x::stolen);
        for (int v = 0; v < 4; v++) {
            int voice = v;
            add("stateOf " + v, () -> x.stateOf(voice));
            add("keyOf " + v, () -> x.keyOf(voice));
            add("levelOf " + v, () -> x.levelOf(voice));
            add("phaseOf " + v, () -> x.phaseOf(voice));
        }
    }

    private void samples() {
        add("time", x::time);
        add("greatest", x::greatest);
        add("energy", x::energy);
        add("meanEnergy", x::meanEnergy);
        add("quietShare", x::quietShare);
        add("isConsistent", x::isConsistent);
        for (int ago = 0; ago < 64; ago++) {
            int some = ago;
            add("heard " + ago, () -> x.heard(some));
        }
        add("ahead 40", () -> x.ahead(40));
        add("aheadByBlocks 39 5", () -> x.aheadByBlocks(39, 5));
    }

    /** A begun note shows the wave and the envelope that are set; the setters answer what was set before. */
    private void settings() {
        add("begin", () -> x.begin(31, 97));
        for (int i = 0; i < 6; i++) {
            for (int v = 0; v < 4; v++) {
                int voice = v;
                add("levelOf " + v, () -> x.levelOf(voice));
            }
            add("play", () -> x.play(9));
        }
        add("end", () -> x.end(31));
        add("play", () -> x.play(2));
        add("sounding", x::sounding);
        add("setWave", () -> x.setWave('t'));
        add("setEnvelope", () -> x.setEnvelope(0, 0, 0, 0));
        add("setOutput", () -> x.setOutput(0));
        for (int n = 0; n < x.nodes(); n++) {
            int node = n;
            add("setGain " + n, () -> x.setGain(node, 100));
        }
    }

    private void whatComesAfter() {
        for (int n = 0; n < x.nodes(); n++) {
            int node = n;
            add("setOutput " + n, () -> x.setOutput(node));
            add("play", () -> x.play(7));
        }
        add("energy", x::energy);
        add("endAll", x::endAll);
    }
}
