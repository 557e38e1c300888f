import java.util.ArrayList;
import java.util.List;
import java.util.NoSuchElementException;

/**
 * The document told a second time, as plainly as can be: every output of every node is kept for ever, delays and
 * filters look their numbers up in what is kept, and the voices find level and phase from the time alone. There are
 * no blocks.
 */
final class PlainModel {
    static final int[] STEPS = {64, 68, 72, 76, 81, 85, 90, 96, 102, 108, 114, 121};

    static final class Node {
        char kind;
        int p;
        int q;
        int r;
        final List<int[]> wires = new ArrayList<>();
        final List<Integer> inputs = new ArrayList<>();
        final List<Integer> outputs = new ArrayList<>();
    }

    static final class Note {
        int key;
        int velocity;
        char wave;
        int[] envelope;
        int from;
        int released = -1;
        int beginning;
        int ending;
    }

    final List<Node> nodes = new ArrayList<>();
    final Note[] voices = new Note[4];
    final List<Integer> heard = new ArrayList<>();
    int output;
    char wave = 's';
    int[] envelope = {0, 0, 1000, 0};
    int now;
    int clock;
    int stolen;

    PlainModel() {
        addNode('v', 0, 0, 0);
    }

    private int addNode(char kind, int p, int q, int r) {
        if (nodes.size() >= 10) {
            throw new IllegalStateException();
        }
        Node node = new Node();
        node.kind = kind;
        node.p = p;
        node.q = q;
        node.r = r;
        nodes.add(node);
        return nodes.size() - 1;
    }

    private static void range(int number, int least, int most) {
        if (number < least || number > most) {
            throw new IllegalArgumentException();
        }
    }

    private Node node(int number) {
        if (number < 0 || number >= nodes.size()) {
            throw new IndexOutOfBoundsException();
        }
        return nodes.get(number);
    }

    int addGain(int percent) {
        range(percent, -200, 200);
        return addNode('g', percent, 0, 0);
    }

    int addDelay(int length, int feedback) {
        range(length, 1, 60);
        range(feedback, -95, 95);
        return addNode('d', length, feedback, 0);
    }

    int addFilter(int a, int b, int c) {
        range(a, -64, 64);
        range(b, -64, 64);
        range(c, -64, 64);
        return addNode('f', a, b, c);
    }

    int addBus(int limit) {
        range(limit, 0, 32767);
        return addNode('b', limit, 0, 0);
    }

    private static int[] wireBetween(Node to, int from) {
        for (int[] wire : to.wires) {
            if (wire[0] == from) {
                return wire;
            }
        }
        return null;
    }

    /** Whether a way without a delay leads from the first node to the second one. */
    private boolean leads(int first, int second) {
        if (nodes.get(first).kind == 'd' || nodes.get(second).kind == 'd') {
            return false;
        }
        if (first == second) {
            return true;
        }
        for (int[] wire : nodes.get(second).wires) {
            if (leads(first, wire[0])) {
                return true;
            }
        }
        return false;
    }

    int connect(int from, int to, int percent) {
        node(from);
        node(to);
        range(percent, -100, 100);
        if (percent == 0) {
            throw new IllegalArgumentException();
        }
        if (wireBetween(node(to), from) != null || node(to).wires.size() == 4) {
            throw new IllegalStateException();
        }
        if (to == 0 || leads(to, from)) {
            throw new UnsupportedOperationException();
        }
        node(to).wires.add(new int[] {from, percent});
        return node(to).wires.size();
    }

    int disconnect(int from, int to) {
        node(from);
        int[] wire = wireBetween(node(to), from);
        if (wire == null) {
            throw new NoSuchElementException();
        }
        node(to).wires.remove(wire);
        return wire[1];
    }

    int setGain(int number, int percent) {
        Node node = node(number);
        if (node.kind != 'g') {
            throw new UnsupportedOperationException();
        }
        range(percent, -200, 200);
        int before = node.p;
        node.p = percent;
        return before;
    }

    int setOutput(int number) {
        node(number);
        int before = output;
        output = number;
        return before;
    }

    int wireFrom(int number, int index) {
        return wire(number, index)[0];
    }

    int wirePercent(int number, int index) {
        return wire(number, index)[1];
    }

    private int[] wire(int number, int index) {
        Node node = node(number);
        if (index < 0 || index >= node.wires.size()) {
            throw new NoSuchElementException();
        }
        return node.wires.get(index);
    }

    List<Integer> order() {
        List<Integer> order = new ArrayList<>();
        while (order.size() < nodes.size()) {
            for (int n = 0; n < nodes.size(); n++) {
                Node node = nodes.get(n);
                boolean ready = node.wires.stream().allMatch(w -> order.contains(w[0]));
                if (!order.contains(n) && (node.kind == 'd' || ready)) {
                    order.add(n);
                    break;
                }
            }
        }
        return order;
    }

    int nodeAt(int place) {
        node(place);
        return order().get(place);
    }

    int longestBlock() {
        return nodes.stream().filter(n -> n.kind == 'd').mapToInt(n -> n.p).min().orElse(64);
    }

    char setWave(char newWave) {
        if ("sqt".indexOf(newWave) < 0) {
            throw new IllegalArgumentException();
        }
        char before = wave;
        wave = newWave;
        return before;
    }

    int setEnvelope(int attack, int decay, int sustain, int release) {
        range(attack, 0, 200);
        range(decay, 0, 200);
        range(sustain, 0, 1000);
        range(release, 0, 200);
        int before = envelope[2];
        envelope = new int[] {attack, decay, sustain, release};
        return before;
    }

    private boolean free(int voice) {
        Note note = voices[voice];
        return note == null || note.released >= 0 && now - note.released >= note.envelope[3];
    }

    private boolean held(int voice) {
        return !free(voice) && voices[voice].released < 0;
    }

    private int voiceForNext() {
        for (int v = 0; v < 4; v++) {
            if (free(v)) {
                return v;
            }
        }
        stolen++;
        int released = -1;
        int begun = 0;
        for (int v = 0; v < 4; v++) {
            if (!held(v) && (released < 0 || voices[v].ending < voices[released].ending)) {
                released = v;
            }
            if (voices[v].beginning < voices[begun].beginning) {
                begun = v;
            }
        }
        return released >= 0 ? released : begun;
    }

    int begin(int key, int velocity) {
        range(key, 0, 59);
        range(velocity, 1, 100);
        int voice = voiceForNext();
        Note note = new Note();
        note.key = key;
        note.velocity = velocity;
        note.wave = wave;
        note.envelope = envelope;
        note.from = now;
        note.beginning = clock++;
        voices[voice] = note;
        return voice;
    }

    int end(int key) {
        range(key, 0, 59);
        int first = -1;
        for (int v = 0; v < 4; v++) {
            boolean fits = held(v) && voices[v].key == key;
            if (fits && (first < 0 || voices[v].beginning < voices[first].beginning)) {
                first = v;
            }
        }
        if (first < 0) {
            throw new NoSuchElementException();
        }
        release(first);
        return first;
    }

    private void release(int voice) {
        voices[voice].released = now;
        voices[voice].ending = clock++;
    }

    int endAll() {
        int count = 0;
        for (int v = 0; v < 4; v++) {
            if (held(v)) {
                release(v);
                count++;
            }
        }
        return count;
    }

    int sounding() {
        int count = 0;
        for (int v = 0; v < 4; v++) {
            count += free(v) ? 0 : 1;
        }
        return count;
    }

    private void voice(int voice) {
        if (voice < 0 || voice > 3) {
            throw new IndexOutOfBoundsException();
        }
    }

    private void busy(int voice) {
        voice(voice);
        if (free(voice)) {
            throw new IllegalStateException();
        }
    }

    char stateOf(int voice) {
        voice(voice);
        if (free(voice)) {
            return 'f';
        }
        Note note = voices[voice];
        int n = now - note.from;
        return note.released >= 0 ? 'r' : n < note.envelope[0] ? 'a' : n < note.envelope[0] + note.envelope[1] ? 'd' : 's';
    }

    int keyOf(int voice) {
        busy(voice);
        return voices[voice].key;
    }

    private static int heldLevel(Note note, int n) {
        int[] e = note.envelope;
        if (n < e[0]) {
            return (int) Math.floor(1000.0 * n / e[0]);
        }
        int m = n - e[0];
        return m < e[1] ? 1000 - (1000 - e[2]) * m / e[1] : e[2];
    }

    int levelOf(int voice) {
        voice(voice);
        if (free(voice)) {
            return 0;
        }
        Note note = voices[voice];
        if (note.released < 0) {
            return heldLevel(note, now - note.from);
        }
        int x = heldLevel(note, note.released - note.from);
        return x - x * (now - note.released) / note.envelope[3];
    }

    int phaseOf(int voice) {
        busy(voice);
        Note note = voices[voice];
        long step = STEPS[note.key % 12];
        for (int k = note.key; k >= 12; k -= 12) {
            step *= 2;
        }
        return (int) (step * (now - note.from) % 65536);
    }

    private int voiceSample(int voice) {
        int p = phaseOf(voice);
        Note note = voices[voice];
        int value = switch (note.wave) {
            case 's' -> p / 32 - 1024;
            case 'q' -> p < 32768 ? 1000 : -1000;
            default -> (p < 32768 ? p : 65535 - p) / 16 - 1024;
        };
        return value * levelOf(voice) / 1000 * note.velocity / 100;
    }

    private static int cut(int number) {
        return number > 32767 ? 32767 : number < -32767 ? -32767 : number;
    }

    private static int back(List<Integer> list, int ago) {
        return ago < list.size() ? list.get(list.size() - 1 - ago) : 0;
    }

    private int outputNow(Node node) {
        int input = node.inputs.isEmpty() ? 0 : back(node.inputs, 0);
        switch (node.kind) {
            case 'v':
                int sum = 0;
                for (int v = 0; v < 4; v++) {
                    sum += free(v) ? 0 : voiceSample(v);
                }
                return cut(sum);
            case 'g':
                return cut(input * node.p / 100);
            case 'd':
                return node.inputs.size() < node.p ? 0
                        : cut(back(node.inputs, node.p - 1) + back(node.outputs, node.p - 1) * node.q / 100);
            case 'f':
                return cut((node.p * input + node.q * back(node.inputs, 1) + node.r * back(node.outputs, 0)) / 64);
            default:
                int size = Math.abs(input);
                return size <= node.p ? input : cut(Integer.signum(input) * (node.p + (size - node.p) / 4));
        }
    }

    private int inputNow(Node node) {
        int sum = 0;
        for (int[] wire : node.wires) {
            sum += back(nodes.get(wire[0]).outputs, 0) * wire[1] / 100;
        }
        return sum;
    }

    private int sample() {
        for (int n : order()) {
            Node node = nodes.get(n);
            if (node.kind != 'd') {
                node.inputs.add(inputNow(node));
            }
            node.outputs.add(outputNow(node));
        }
        for (Node node : nodes) {
            if (node.kind == 'd') {
                node.inputs.add(inputNow(node));
            }
        }
        now++;
        return back(nodes.get(output).outputs, 0);
    }

    int play(int samples) {
        range(samples, 1, 64);
        for (int i = 0; i < samples; i++) {
            heard.add(sample());
        }
        return back(heard, 0);
    }

    int ahead(int samples) {
        range(samples, 1, 40);
        int last = 0;
        for (int i = 0; i < samples; i++) {
            last = sample();
        }
        now -= samples;
        for (Node node : nodes) {
            shorten(node.inputs, samples);
            shorten(node.outputs, samples);
        }
        return last;
    }

    private static void shorten(List<Integer> list, int by) {
        list.subList(list.size() - by, list.size()).clear();
    }

    int aheadByBlocks(int samples, int size) {
        range(samples, 1, 40);
        range(size, 1, 64);
        return ahead(samples);
    }

    int heard(int ago) {
        range(ago, 0, 63);
        if (ago >= heard.size()) {
            throw new NoSuchElementException();
        }
        return back(heard, ago);
    }

    int outputOf(int number) {
        return back(node(number).outputs, 0);
    }

    int greatest() {
        return heard.stream().mapToInt(Math::abs).max().orElse(0);
    }

    long energy() {
        return heard.stream().mapToLong(s -> (long) s * s).sum();
    }

    private void sounded() {
        if (heard.isEmpty()) {
            throw new ArithmeticException();
        }
    }

    double meanEnergy() {
        sounded();
        return (double) energy() / (double) heard.size();
    }

    float quietShare() {
        sounded();
        return (float) heard.stream().filter(s -> s == 0).count() / (float) heard.size();
    }
}
