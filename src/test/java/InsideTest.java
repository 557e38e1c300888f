import java.lang.reflect.Array;
import java.lang.reflect.Field;
import java.lang.reflect.Modifier;
import java.util.ArrayList;
import java.util.Collections;
import java.util.IdentityHashMap;
import java.util.List;
import java.util.Set;

/**
 * Promise 39 where its answer is false. No run of calls makes a graph inconsistent, so what the object holds is made
 * wrong in each way of many: a number one up or one down, a sign turned, two neighbours in a row changed about, or one
 * of them put in the other's place. Whether the graph is then consistent is found by the other calls of the face, in
 * the document's words, and isConsistent must answer the same. No field is named here, so that all may be renamed.
 */
final class InsideTest {
    private static final Check CHECK = new Check();

    /** Makes one thing wrong. */
    private interface Change {
        void make() throws ReflectiveOperationException;
    }

    private int wrongByOrder;
    private int wrongByLevel;
    private int wrongBySamples;
    private int right;

    public static void main(String[] args) throws ReflectiveOperationException {
        InsideTest test = new InsideTest();
        for (int first = 0; first < 4; first++) {
            CHECK.due("as it should be", true, graph(first)::isConsistent);
            test.makeEachWrong(first);
        }
        CHECK.due("the order alone was wrong", true, () -> test.wrongByOrder > 0);
        CHECK.due("a level alone was wrong", true, () -> test.wrongByLevel > 0);
        CHECK.due("the samples alone were wrong", true, () -> test.wrongBySamples > 0);
        CHECK.due("nothing was wrong", true, () -> test.right > 0);
        CHECK.close("InsideTest");
    }

    /** Held, released at the level 1000, released at the level 0, and in the attack: the first of them in this voice. */
    private static ToneGraph graph(int first) {
        ToneGraph x = new ToneGraph();
        x.addGain(100);
        x.addBus(10);
        x.addDelay(7, 0);
        x.addDelay(7, 0);
        x.addFilter(60, 0, 1);
        x.connect(0, 1, 100);
        x.connect(1, 2, 100);
        x.connect(2, 3, 100);
        x.connect(0, 4, -90);
        x.connect(3, 5, 100);
        x.connect(4, 5, 50);
        x.setOutput(5);
        for (int voice = 0; voice < 4; voice++) {
            int part = (voice + first) % 4;
            x.setEnvelope(part < 2 ? 0 : 50, 0, 1000, 30);
            x.begin(40 + part, 100);
            if (part == 1 || part == 2) {
                x.end(40 + part);
            }
        }
        x.setEnvelope(0, 0, 0, 9);
        return x;
    }

    /** A graph for each change, as an object is used for at most 512 calls. */
    private void makeEachWrong(int first) throws ReflectiveOperationException {
        int count = changesOf(graph(first)).size();
        for (int i = 0; i < count; i++) {
            ToneGraph x = graph(first);
            changesOf(x).get(i).make();
            compare("change " + i + " of graph " + first, x);
        }
    }

    private void compare(String what, ToneGraph x) {
        String order = Check.answerOf(() -> isInOrder(x));
        String levels = Check.answerOf(() -> hasLevelsInRange(x));
        String samples = Check.answerOf(() -> hasSameSamples(x));
        // What an object answers of which a part is gone, or whose order is none, is nobody's promise.
        if ((order + levels + samples).contains("throws.")) {
            return;
        }
        boolean due = (order + levels + samples).equals("truetruetrue");
        CHECK.due(what, due, x::isConsistent);
        switch (order + levels + samples) {
            case "falsetruetrue" -> wrongByOrder++;
            case "truefalsetrue" -> wrongByLevel++;
            case "truetruefalse" -> wrongBySamples++;
            case "truetruetrue" -> right++;
            default -> { }
        }
    }

    /** Each node that is not a delay stands in the order behind the nodes from which wires lead to it. */
    private static boolean isInOrder(ToneGraph x) {
        int[] placeOf = new int[x.nodes()];
        int seen = 0;
        for (int place = 0; place < placeOf.length; place++) {
            placeOf[x.nodeAt(place)] = place;
            seen |= 1 << x.nodeAt(place);
        }
        if (seen != (1 << placeOf.length) - 1) {
            throw new IllegalStateException("a node is not in the order");
        }
        for (int node = 0; node < placeOf.length; node++) {
            for (int wire = 0; wire < x.wires(node); wire++) {
                if (x.kindOf(node) != 'd' && placeOf[node] <= placeOf[x.wireFrom(node, wire)]) {
                    return false;
                }
            }
        }
        return true;
    }

    /** Each level is from 0 to 1000. */
    private static boolean hasLevelsInRange(ToneGraph x) {
        for (int voice = 0; voice < 4; voice++) {
            if (x.levelOf(voice) < 0 || x.levelOf(voice) > 1000) {
                return false;
            }
        }
        return true;
    }

    /** The next 20 samples are the same by ahead, and by aheadByBlocks with the length 7. */
    private static boolean hasSameSamples(ToneGraph x) {
        for (int samples = 1; samples <= 20; samples++) {
            if (x.ahead(samples) != x.aheadByBlocks(samples, 7)) {
                return false;
            }
        }
        return true;
    }

    /** All changes of what can be reached from the object, always in the same order. */
    private static List<Change> changesOf(ToneGraph x) throws ReflectiveOperationException {
        List<Change> changes = new ArrayList<>();
        collect(x, changes, Collections.newSetFromMap(new IdentityHashMap<>()));
        return changes;
    }

    private static void collect(Object object, List<Change> changes, Set<Object> seen) throws ReflectiveOperationException {
        if (object == null || !seen.add(object)) {
            return;
        }
        Class<?> type = object.getClass();
        if (object instanceof int[] numbers) {
            numbersOf(numbers, changes);
        } else if (object instanceof Object[] parts) {
            neighboursOf(parts, changes);
            for (Object part : parts) {
                collect(part, changes, seen);
            }
        } else if (type.getName().startsWith("ToneGraph") && !(object instanceof Enum) && !type.isRecord()) {
            for (Field field : type.getDeclaredFields()) {
                if (!Modifier.isStatic(field.getModifiers())) {
                    field.setAccessible(true);
                    fieldOf(object, field, changes);
                    collect(field.getType().isPrimitive() ? null : field.get(object), changes, seen);
                }
            }
        }
    }

    private static void numbersOf(int[] numbers, List<Change> changes) {
        for (int i = 0; i < numbers.length; i++) {
            int at = i;
            changes.add(() -> numbers[at]++);
            changes.add(() -> numbers[at]--);
        }
        neighboursOf(numbers, changes);
    }

    private static void neighboursOf(Object row, List<Change> changes) {
        for (int i = 0; i + 1 < Array.getLength(row); i++) {
            int at = i;
            changes.add(() -> Array.set(row, at, Array.get(row, at + 1)));
            changes.add(() -> {
                Object kept = Array.get(row, at);
                Array.set(row, at, Array.get(row, at + 1));
                Array.set(row, at + 1, kept);
            });
        }
    }

    private static void fieldOf(Object object, Field field, List<Change> changes) {
        if (field.getType() == int.class) {
            changes.add(() -> field.setInt(object, field.getInt(object) + 1));
            changes.add(() -> field.setInt(object, field.getInt(object) - 1));
        } else if (field.getType() == boolean.class) {
            changes.add(() -> field.setBoolean(object, !field.getBoolean(object)));
        }
    }
}
