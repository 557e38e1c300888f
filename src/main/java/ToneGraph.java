import java.util.NoSuchElementException;

/**
 * A graph that makes sound from whole numbers: voices play notes by waves and envelopes, and nodes change and mix
 * what they get over wires.
 */
public final class ToneGraph {

    private static final int MOST_NODES = 10;
    private static final int MOST_WIRES = 4;
    private static final int MOST_VOICES = 4;
    private static final int MOST_KEYS = 60;
    private static final int LONGEST_BLOCK = 64;
    private static final int LONGEST_DELAY = 60;
    private static final int LONGEST_LOOK = 40;
    private static final int LONGEST_STAGE = 200;
    private static final int LONGEST_MEMORY = 64;
    private static final int LOUDEST = 32767;
    private static final int FULL_LEVEL = 1000;
    private static final int LAST_PHASE = 65535;
    private static final int HALF_PHASE = 32768;
    private static final int CHECKED_SAMPLES = 20;
    private static final int CHECKED_BLOCK = 7;
    private static final int KEYS_TO_DOUBLE = 12;
    private static final int ANY_KEY = -1;
    private static final int NONE = -1;

    private static final char VOICES = 'v';
    private static final char GAIN = 'g';
    private static final char DELAY = 'd';
    private static final char FILTER = 'f';
    private static final char BUS = 'b';

    private static final char SAW = 's';
    private static final char SQUARE = 'q';
    private static final char TRIANGLE = 't';

    private static final int[] LOWEST_STEPS = {64, 68, 72, 76, 81, 85, 90, 96, 102, 108, 114, 121};

    private final Board board;
    private final Track live;
    private final Track trial;
    private final Meter meter;
    private final int[] found;
    private final int[] foundByBlocks;
    private char wave;
    private Envelope envelope;

    public ToneGraph() {
        board = new Board();
        live = new Track(board);
        trial = new Track(board);
        meter = new Meter();
        found = new int[LONGEST_BLOCK];
        foundByBlocks = new int[LONGEST_BLOCK];
        wave = SAW;
        envelope = new Envelope(0, 0, FULL_LEVEL, 0);
    }

    // Nodes and wires

    public int addGain(int percent) throws IllegalArgumentException, IllegalStateException {
        refuseOutside(percent, -200, 200);
        refuseFullBoard();
        int node = board.add(GAIN);
        board.gain[node] = percent;
        return node;
    }

    public int addDelay(int length, int feedback) throws IllegalArgumentException, IllegalStateException {
        refuseOutside(length, 1, LONGEST_DELAY);
        refuseOutside(feedback, -95, 95);
        refuseFullBoard();
        int node = board.add(DELAY);
        board.length[node] = length;
        board.feedback[node] = feedback;
        return node;
    }

    public int addFilter(int a, int b, int c) throws IllegalArgumentException, IllegalStateException {
        refuseOutside(a, -64, 64);
        refuseOutside(b, -64, 64);
        refuseOutside(c, -64, 64);
        refuseFullBoard();
        int node = board.add(FILTER);
        board.a[node] = a;
        board.b[node] = b;
        board.c[node] = c;
        return node;
    }

    public int addBus(int limit) throws IllegalArgumentException, IllegalStateException {
        refuseOutside(limit, 0, LOUDEST);
        refuseFullBoard();
        int node = board.add(BUS);
        board.limit[node] = limit;
        return node;
    }

    public int connect(int from, int to, int percent) throws IndexOutOfBoundsException, IllegalArgumentException,
            IllegalStateException, UnsupportedOperationException {
        refuseNoNode(from);
        refuseNoNode(to);
        refuseOutside(percent, -100, 100);
        if (percent == 0) {
            throw new IllegalArgumentException("a wire of 0 percent");
        }
        if (board.findWire(from, to) != NONE || board.wireCount[to] >= MOST_WIRES) {
            throw new IllegalStateException("no room for this wire");
        }
        if (board.kind[to] == VOICES || board.closesBareCircle(from, to)) {
            throw new UnsupportedOperationException("a wire that may not lead there");
        }
        return board.addWire(from, to, percent);
    }

    public int disconnect(int from, int to) throws IndexOutOfBoundsException, NoSuchElementException {
        refuseNoNode(from);
        refuseNoNode(to);
        int index = board.findWire(from, to);
        if (index == NONE) {
            throw new NoSuchElementException("no such wire");
        }
        return board.removeWire(to, index);
    }

    public int setGain(int node, int percent) throws IndexOutOfBoundsException, UnsupportedOperationException,
            IllegalArgumentException {
        refuseNoNode(node);
        if (board.kind[node] != GAIN) {
            throw new UnsupportedOperationException("not a gain");
        }
        refuseOutside(percent, -200, 200);
        int before = board.gain[node];
        board.gain[node] = percent;
        return before;
    }

    public int setOutput(int node) throws IndexOutOfBoundsException {
        refuseNoNode(node);
        int before = board.output;
        board.output = node;
        return before;
    }

    public int nodes() {
        return board.count;
    }

    public char kindOf(int node) throws IndexOutOfBoundsException {
        refuseNoNode(node);
        return board.kind[node];
    }

    public int wires(int node) throws IndexOutOfBoundsException {
        refuseNoNode(node);
        return board.wireCount[node];
    }

    public int wireFrom(int node, int index) throws IndexOutOfBoundsException, NoSuchElementException {
        refuseNoNode(node);
        refuseNoWire(node, index);
        return board.source[node][index];
    }

    public int wirePercent(int node, int index) throws IndexOutOfBoundsException, NoSuchElementException {
        refuseNoNode(node);
        refuseNoWire(node, index);
        return board.share[node][index];
    }

    public int nodeAt(int place) throws IndexOutOfBoundsException {
        // The order has a place for each node, so the places are numbered like the nodes.
        refuseNoNode(place);
        return board.order[place];
    }

    public int longestBlock() {
        return board.shortestDelay();
    }

    // Notes

    public char setWave(char wave) throws IllegalArgumentException {
        if (wave != SAW && wave != SQUARE && wave != TRIANGLE) {
            throw new IllegalArgumentException("no such wave");
        }
        char before = this.wave;
        this.wave = wave;
        return before;
    }

    public int setEnvelope(int attack, int decay, int sustain, int release) throws IllegalArgumentException {
        refuseOutside(attack, 0, LONGEST_STAGE);
        refuseOutside(decay, 0, LONGEST_STAGE);
        refuseOutside(sustain, 0, FULL_LEVEL);
        refuseOutside(release, 0, LONGEST_STAGE);
        int before = envelope.sustain;
        envelope = new Envelope(attack, decay, sustain, release);
        return before;
    }

    public int begin(int key, int velocity) throws IllegalArgumentException {
        refuseNoKey(key);
        refuseOutside(velocity, 1, 100);
        return live.choir.startNote(key, velocity, wave, envelope);
    }

    public int end(int key) throws IllegalArgumentException, NoSuchElementException {
        refuseNoKey(key);
        int voice = live.choir.firstHeld(key);
        if (voice == NONE) {
            throw new NoSuchElementException("no such note");
        }
        live.choir.releaseNote(voice);
        return voice;
    }

    public int endAll() {
        return live.choir.releaseEach();
    }

    public int sounding() {
        return live.choir.countPlaying();
    }

    public char stateOf(int voice) throws IndexOutOfBoundsException {
        refuseNoVoice(voice);
        return live.choir.voices[voice].stage();
    }

    public int keyOf(int voice) throws IndexOutOfBoundsException, IllegalStateException {
        refuseNoVoice(voice);
        refuseFree(voice);
        return live.choir.voices[voice].key;
    }

    public int levelOf(int voice) throws IndexOutOfBoundsException {
        refuseNoVoice(voice);
        return live.choir.voices[voice].level();
    }

    public int phaseOf(int voice) throws IndexOutOfBoundsException, IllegalStateException {
        refuseNoVoice(voice);
        refuseFree(voice);
        return live.choir.voices[voice].phase;
    }

    public int stolen() {
        return live.choir.thefts;
    }

    // Samples

    public int play(int samples) throws IllegalArgumentException {
        refuseOutside(samples, 1, LONGEST_BLOCK);
        return perform(samples, LONGEST_BLOCK);
    }

    public int step() {
        return perform(1, 1);
    }

    public int ahead(int samples) throws IllegalArgumentException {
        refuseOutside(samples, 1, LONGEST_LOOK);
        lookAhead(samples, 1, found);
        return found[samples - 1];
    }

    public int aheadByBlocks(int samples, int size) throws IllegalArgumentException {
        refuseOutside(samples, 1, LONGEST_LOOK);
        refuseOutside(size, 1, LONGEST_BLOCK);
        lookAhead(samples, size, foundByBlocks);
        return foundByBlocks[samples - 1];
    }

    public int heard(int ago) throws IllegalArgumentException, NoSuchElementException {
        refuseOutside(ago, 0, LONGEST_MEMORY - 1);
        if (ago >= meter.count) {
            throw new NoSuchElementException("not so many samples have been played");
        }
        return meter.recall(ago);
    }

    public int outputOf(int node) throws IndexOutOfBoundsException {
        refuseNoNode(node);
        return live.latest[node];
    }

    public int time() {
        return meter.count;
    }

    public int greatest() {
        return meter.peak;
    }

    public long energy() {
        return meter.squares;
    }

    public double meanEnergy() throws ArithmeticException {
        refuseSilence();
        return (double) meter.squares / (double) meter.count;
    }

    public float quietShare() throws ArithmeticException {
        refuseSilence();
        return (float) meter.zeros / (float) meter.count;
    }

    public boolean isConsistent() {
        if (!board.isInOrder() || !live.choir.hasLevelsInRange()) {
            return false;
        }
        lookAhead(CHECKED_SAMPLES, 1, found);
        lookAhead(CHECKED_SAMPLES, CHECKED_BLOCK, foundByBlocks);
        for (int i = 0; i < CHECKED_SAMPLES; i++) {
            if (found[i] != foundByBlocks[i]) {
                return false;
            }
        }
        return true;
    }

    // What the calls share

    private int perform(int samples, int longest) {
        live.find(samples, longest, found);
        for (int i = 0; i < samples; i++) {
            meter.note(found[i]);
        }
        return found[samples - 1];
    }

    private void lookAhead(int samples, int longest, int[] row) {
        trial.copyFrom(live);
        trial.find(samples, longest, row);
    }

    private static void refuseOutside(int number, int least, int most) {
        if (number < least || number > most) {
            throw new IllegalArgumentException("a number is out of range");
        }
    }

    private static void refuseNoKey(int key) {
        refuseOutside(key, 0, MOST_KEYS - 1);
    }

    private static void refuseNoVoice(int voice) {
        if (voice < 0 || voice >= MOST_VOICES) {
            throw new IndexOutOfBoundsException("no such voice");
        }
    }

    private void refuseFullBoard() {
        if (board.count >= MOST_NODES) {
            throw new IllegalStateException("no more nodes");
        }
    }

    private void refuseNoNode(int node) {
        if (node < 0 || node >= board.count) {
            throw new IndexOutOfBoundsException("no such node");
        }
    }

    private void refuseNoWire(int node, int index) {
        if (index < 0 || index >= board.wireCount[node]) {
            throw new NoSuchElementException("no such wire");
        }
    }

    private void refuseFree(int voice) {
        if (!live.choir.voices[voice].playing) {
            throw new IllegalStateException("the voice is free");
        }
    }

    private void refuseSilence() {
        if (meter.count == 0) {
            throw new ArithmeticException("no sample has been played");
        }
    }

    private static int cut(int number) {
        return Math.max(-LOUDEST, Math.min(LOUDEST, number));
    }

    private static int partOf(int number, int percent) {
        return number * percent / 100;
    }

    private static int stepOfKey(int key) {
        if (key < 0 || key >= MOST_KEYS) {
            return 0;
        }
        return LOWEST_STEPS[key % KEYS_TO_DOUBLE] << (key / KEYS_TO_DOUBLE);
    }

    /** The nodes, their wires and their order: what playing leaves as it is. */
    private static final class Board {
        int count;
        int output;
        final char[] kind = new char[MOST_NODES];
        final int[] gain = new int[MOST_NODES];
        final int[] length = new int[MOST_NODES];
        final int[] feedback = new int[MOST_NODES];
        final int[] a = new int[MOST_NODES];
        final int[] b = new int[MOST_NODES];
        final int[] c = new int[MOST_NODES];
        final int[] limit = new int[MOST_NODES];
        final int[] wireCount = new int[MOST_NODES];
        final int[][] source = new int[MOST_NODES][MOST_WIRES];
        final int[][] share = new int[MOST_NODES][MOST_WIRES];
        final int[] order = new int[MOST_NODES];

        Board() {
            // The node of the voices: its number, its place and the output are all 0, as the rows are anyway.
            count = 1;
            kind[0] = VOICES;
        }

        /** The caller has seen that there is room. */
        int add(char newKind) {
            int node = count;
            kind[node] = newKind;
            count = node + 1;
            arrange();
            return node;
        }

        int findWire(int from, int to) {
            for (int wire = 0; wire < wireCount[to]; wire++) {
                if (source[to][wire] == from) {
                    return wire;
                }
            }
            return NONE;
        }

        /** The caller has seen that there is room. */
        int addWire(int from, int to, int percent) {
            int wire = wireCount[to];
            source[to][wire] = from;
            share[to][wire] = percent;
            wireCount[to] = wire + 1;
            arrange();
            return wireCount[to];
        }

        int removeWire(int to, int index) {
            int percent = share[to][index];
            for (int wire = index + 1; wire < wireCount[to]; wire++) {
                source[to][wire - 1] = source[to][wire];
                share[to][wire - 1] = share[to][wire];
            }
            wireCount[to]--;
            arrange();
            return percent;
        }

        /** Whether a wire between these nodes would close a circle that has no delay. */
        boolean closesBareCircle(int from, int to) {
            if (kind[from] == DELAY || kind[to] == DELAY) {
                return false;
            }
            int reached = 1 << to;
            // The longest way without a circle takes one round for each node.
            for (int round = 0; round < count; round++) {
                for (int node = 0; node < count; node++) {
                    if (kind[node] != DELAY && hasWireFrom(node, reached)) {
                        reached |= 1 << node;
                    }
                }
            }
            return isIn(reached, from);
        }

        boolean hasWireFrom(int node, int set) {
            for (int wire = 0; wire < wireCount[node]; wire++) {
                if (isIn(set, source[node][wire])) {
                    return true;
                }
            }
            return false;
        }

        void arrange() {
            int placed = 0;
            for (int place = 0; place < count; place++) {
                int node = lowestReady(placed);
                order[place] = node;
                placed |= 1 << node;
            }
        }

        int lowestReady(int placed) {
            for (int node = 0; node < count; node++) {
                if (!isIn(placed, node) && (kind[node] == DELAY || !hasWireFrom(node, ~placed))) {
                    return node;
                }
            }
            // Not reached while places are left: a circle without a delay is refused.
            return 0;
        }

        /** Sets of nodes are whole numbers with a bit for each node. */
        static boolean isIn(int set, int node) {
            return (set >> node & 1) == 1;
        }

        int shortestDelay() {
            int shortest = LONGEST_BLOCK;
            for (int node = 0; node < count; node++) {
                if (kind[node] == DELAY) {
                    shortest = Math.min(shortest, length[node]);
                }
            }
            return shortest;
        }

        boolean isInOrder() {
            int passed = 0;
            for (int place = 0; place < count; place++) {
                int node = order[place];
                if (kind[node] != DELAY && hasWireFrom(node, ~passed)) {
                    return false;
                }
                passed |= 1 << node;
            }
            return true;
        }
    }

    /** One way on from now: what playing changes. A second one looks ahead and leaves the first as it is. */
    private static final class Track {
        final Board board;
        final Choir choir = new Choir();
        final int[][] block = new int[MOST_NODES][LONGEST_BLOCK];
        final int[] latest = new int[MOST_NODES];
        final int[] inputBefore = new int[MOST_NODES];
        final int[][] kept = new int[MOST_NODES][LONGEST_DELAY];
        final int[] oldest = new int[MOST_NODES];

        Track(Board board) {
            this.board = board;
        }

        void copyFrom(Track other) {
            choir.copyFrom(other.choir);
            for (int node = 0; node < board.count; node++) {
                latest[node] = other.latest[node];
                inputBefore[node] = other.inputBefore[node];
                oldest[node] = other.oldest[node];
                if (board.kind[node] == DELAY) {
                    System.arraycopy(other.kept[node], 0, kept[node], 0, LONGEST_DELAY);
                }
            }
        }

        /** Puts the next samples of the output of the graph into the row, which is as long as the longest block. */
        void find(int samples, int longest, int[] row) {
            int size = Math.max(1, Math.min(longest, board.shortestDelay()));
            for (int past = 0; past < samples; past += size) {
                int some = Math.min(size, samples - past);
                findBlock(some);
                System.arraycopy(block[board.output], 0, row, past, some);
            }
        }

        void findBlock(int size) {
            for (int place = 0; place < board.count; place++) {
                int node = board.order[place];
                char kind = board.kind[node];
                if (kind == VOICES) {
                    findVoices(node, size);
                } else if (kind == GAIN) {
                    findGain(node, size);
                } else if (kind == DELAY) {
                    findDelay(node, size);
                } else if (kind == FILTER) {
                    findFilter(node, size);
                } else {
                    findBus(node, size);
                }
            }
            // Delays get their input last, as it may come from nodes that stand behind them in the order.
            for (int node = 0; node < board.count; node++) {
                if (board.kind[node] == DELAY) {
                    feedDelay(node, size);
                }
                latest[node] = block[node][size - 1];
            }
        }

        void findVoices(int node, int size) {
            int[] row = block[node];
            for (int i = 0; i < size; i++) {
                row[i] = 0;
            }
            for (int voice = 0; voice < MOST_VOICES; voice++) {
                choir.voices[voice].addSamples(row, size);
            }
            for (int i = 0; i < size; i++) {
                row[i] = cut(row[i]);
            }
        }

        void findGain(int node, int size) {
            for (int i = 0; i < size; i++) {
                block[node][i] = cut(partOf(inputAt(node, i), board.gain[node]));
            }
        }

        void findDelay(int node, int size) {
            int at = oldest[node];
            for (int i = 0; i < size; i++) {
                block[node][i] = kept[node][at];
                at = nextOldest(node, at);
            }
        }

        void feedDelay(int node, int size) {
            int at = oldest[node];
            for (int i = 0; i < size; i++) {
                int echo = partOf(block[node][i], board.feedback[node]);
                kept[node][at] = cut(inputAt(node, i) + echo);
                at = nextOldest(node, at);
            }
            oldest[node] = at;
        }

        int nextOldest(int node, int at) {
            return at + 1 < board.length[node] ? at + 1 : 0;
        }

        void findFilter(int node, int size) {
            int before = inputBefore[node];
            int output = latest[node];
            for (int i = 0; i < size; i++) {
                int input = inputAt(node, i);
                int sum = board.a[node] * input + board.b[node] * before + board.c[node] * output;
                output = cut(sum / 64);
                block[node][i] = output;
                before = input;
            }
            inputBefore[node] = before;
        }

        void findBus(int node, int size) {
            for (int i = 0; i < size; i++) {
                block[node][i] = cut(limited(inputAt(node, i), board.limit[node]));
            }
        }

        static int limited(int input, int limit) {
            int size = Math.abs(input);
            if (size <= limit) {
                return input;
            }
            int less = limit + (size - limit) / 4;
            return input < 0 ? -less : less;
        }

        int inputAt(int node, int i) {
            int sum = 0;
            for (int wire = 0; wire < board.wireCount[node]; wire++) {
                int from = board.source[node][wire];
                sum += partOf(block[from][i], board.share[node][wire]);
            }
            return sum;
        }
    }

    /** The voices, and who plays next. */
    private static final class Choir {
        final Voice[] voices = new Voice[MOST_VOICES];
        /** Counts what begins and what is released, so that it is known which came first. */
        int clock;
        int thefts;

        Choir() {
            for (int voice = 0; voice < MOST_VOICES; voice++) {
                voices[voice] = new Voice();
            }
        }

        void copyFrom(Choir other) {
            for (int voice = 0; voice < MOST_VOICES; voice++) {
                voices[voice].copyFrom(other.voices[voice]);
            }
        }

        int startNote(int key, int velocity, char wave, Envelope envelope) {
            int voice = lowestFree();
            if (voice == NONE) {
                voice = mostStealable();
                thefts++;
            }
            clock++;
            voices[voice].start(key, velocity, wave, envelope, clock);
            return voice;
        }

        int lowestFree() {
            for (int voice = 0; voice < MOST_VOICES; voice++) {
                if (!voices[voice].playing) {
                    return voice;
                }
            }
            return NONE;
        }

        int mostStealable() {
            int chosen = 0;
            for (int voice = 1; voice < MOST_VOICES; voice++) {
                if (voices[voice].isStolenBefore(voices[chosen])) {
                    chosen = voice;
                }
            }
            return chosen;
        }

        int firstHeld(int key) {
            int first = NONE;
            for (int voice = 0; voice < MOST_VOICES; voice++) {
                if (voices[voice].holds(key) && (first == NONE || voices[voice].begun < voices[first].begun)) {
                    first = voice;
                }
            }
            return first;
        }

        void releaseNote(int voice) {
            clock++;
            voices[voice].release(clock);
        }

        int releaseEach() {
            int released = 0;
            for (int voice = 0; voice < MOST_VOICES; voice++) {
                if (voices[voice].holds(ANY_KEY)) {
                    releaseNote(voice);
                    released++;
                }
            }
            return released;
        }

        int countPlaying() {
            int playing = 0;
            for (int voice = 0; voice < MOST_VOICES; voice++) {
                if (voices[voice].playing) {
                    playing++;
                }
            }
            return playing;
        }

        boolean hasLevelsInRange() {
            for (int voice = 0; voice < MOST_VOICES; voice++) {
                int level = voices[voice].level();
                if (level < 0 || level > FULL_LEVEL) {
                    return false;
                }
            }
            return true;
        }
    }

    /** A voice, and the note that it plays or played last. */
    private static final class Voice {
        boolean playing;
        boolean released;
        int key;
        int velocity;
        char wave = SAW;
        Envelope envelope = new Envelope(0, 0, FULL_LEVEL, 0);
        /** By how much the phase increases from sample to sample. */
        int stride;
        int phase;
        int begun;
        int ended;
        int samples;
        int levelAtRelease;
        int samplesReleased;

        void start(int newKey, int newVelocity, char newWave, Envelope newEnvelope, int now) {
            playing = true;
            released = false;
            key = newKey;
            velocity = newVelocity;
            wave = newWave;
            envelope = newEnvelope;
            stride = stepOfKey(newKey);
            phase = 0;
            begun = now;
            samples = 0;
        }

        void release(int now) {
            levelAtRelease = level();
            samplesReleased = 0;
            released = true;
            ended = now;
            playing = envelope.release > 0;
        }

        /** Adds its next samples to those of other voices in the row. */
        void addSamples(int[] row, int size) {
            for (int i = 0; i < size && playing; i++) {
                int shaped = waveValue() * level() / FULL_LEVEL;
                row[i] += partOf(shaped, velocity);
                moveOn();
            }
        }

        void moveOn() {
            phase = phase + stride & LAST_PHASE;
            if (released) {
                samplesReleased++;
                playing = samplesReleased < envelope.release;
            } else {
                samples++;
            }
        }

        boolean holds(int wanted) {
            return playing && !released && (wanted == ANY_KEY || wanted == key);
        }

        boolean isStolenBefore(Voice other) {
            if (released != other.released) {
                return released;
            }
            return released ? ended < other.ended : begun < other.begun;
        }

        int level() {
            if (!playing) {
                return 0;
            }
            if (released) {
                int release = envelope.release;
                return release > 0 ? levelAtRelease - levelAtRelease * samplesReleased / release : 0;
            }
            int attack = envelope.attack;
            if (attack > 0 && samples < attack) {
                return FULL_LEVEL * samples / attack;
            }
            int decay = envelope.decay;
            int later = samples - attack;
            if (decay > 0 && later < decay) {
                return FULL_LEVEL - (FULL_LEVEL - envelope.sustain) * later / decay;
            }
            return envelope.sustain;
        }

        char stage() {
            if (!playing) {
                return 'f';
            }
            if (released) {
                return 'r';
            }
            if (samples < envelope.attack) {
                return 'a';
            }
            return samples - envelope.attack < envelope.decay ? 'd' : 's';
        }

        int waveValue() {
            if (wave == SQUARE) {
                return phase < HALF_PHASE ? 1000 : -1000;
            }
            if (wave == TRIANGLE) {
                int rise = phase < HALF_PHASE ? phase : LAST_PHASE - phase;
                return rise / 16 - 1024;
            }
            return phase / 32 - 1024;
        }

        void copyFrom(Voice other) {
            playing = other.playing;
            released = other.released;
            key = other.key;
            velocity = other.velocity;
            wave = other.wave;
            envelope = other.envelope;
            stride = other.stride;
            phase = other.phase;
            begun = other.begun;
            ended = other.ended;
            samples = other.samples;
            levelAtRelease = other.levelAtRelease;
            samplesReleased = other.samplesReleased;
        }
    }

    /** The four numbers of an envelope. They never change, so that notes share it. */
    private static final class Envelope {
        final int attack;
        final int decay;
        final int sustain;
        final int release;

        Envelope(int attack, int decay, int sustain, int release) {
            this.attack = attack;
            this.decay = decay;
            this.sustain = sustain;
            this.release = release;
        }
    }

    /** What has been played. */
    private static final class Meter {
        /** The row is used in a ring: its length is a power of two, so that a mask leads back to its start. */
        private static final int LAST_PLACE = LONGEST_MEMORY - 1;
        final int[] row = new int[LONGEST_MEMORY];
        int count;
        int peak;
        long squares;
        int zeros;

        void note(int sample) {
            row[count & LAST_PLACE] = sample;
            count++;
            peak = Math.max(peak, Math.abs(sample));
            squares += (long) sample * sample;
            if (sample == 0) {
                zeros++;
            }
        }

        /** The caller has seen that so many samples have been played. */
        int recall(int ago) {
            return row[count - 1 - ago & LAST_PLACE];
        }
    }
}
