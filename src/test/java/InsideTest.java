import java.lang.reflect.Field;

/**
 * Promise 39 where its answer is false. No run of calls makes a graph inconsistent, so each part of what isConsistent
 * promises is made wrong inside the object, by the names of its fields: who renames a field there renames it here.
 */
final class InsideTest {
    private static final Check CHECK = new Check();

    public static void main(String[] args) throws ReflectiveOperationException {
        orderIsWrong();
        delaysMayStandAnywhere();
        levelIsWrong();
        blocksAreWrong();
        CHECK.close("InsideTest");
    }

    /** The value of a field, or of a field of that one's value, and so on. */
    private static Object inside(Object from, String... names) throws ReflectiveOperationException {
        Object found = from;
        for (String name : names) {
            found = open(found, name).get(found);
        }
        return found;
    }

    private static Field open(Object object, String name) throws ReflectiveOperationException {
        Field field = object.getClass().getDeclaredField(name);
        field.setAccessible(true);
        return field;
    }

    private static ToneGraph chain() {
        ToneGraph x = Start.steady(100);
        x.addGain(100);
        x.addBus(10);
        x.addDelay(9, 0);
        x.connect(0, 1, 100);
        x.connect(1, 2, 100);
        x.connect(2, 3, 100);
        return x;
    }

    private static void setOrder(ToneGraph x, int... order) throws ReflectiveOperationException {
        int[] row = (int[]) inside(x, "board", "order");
        System.arraycopy(order, 0, row, 0, order.length);
    }

    private static void orderIsWrong() throws ReflectiveOperationException {
        ToneGraph x = chain();
        CHECK.due("as it should be", true, x::isConsistent);
        setOrder(x, 0, 2, 1, 3);
        CHECK.due("2 ahead of 1", false, x::isConsistent);
        setOrder(x, 1, 0, 2, 3);
        CHECK.due("1 ahead of the voices", false, x::isConsistent);
        setOrder(x, 0, 1, 2, 3);
        CHECK.due("as it should be again", true, x::isConsistent);
    }

    /** Each node that is not a delay stands behind those from which wires lead to it; a delay need not. */
    private static void delaysMayStandAnywhere() throws ReflectiveOperationException {
        ToneGraph x = chain();
        setOrder(x, 3, 0, 1, 2);
        CHECK.due("the delay first", true, x::isConsistent);
        setOrder(x, 0, 1, 3, 2);
        CHECK.due("the delay third", true, x::isConsistent);
    }

    private static void levelIsWrong() throws ReflectiveOperationException {
        for (int voice = 0; voice < 4; voice++) {
            ToneGraph x = new ToneGraph();
            x.setEnvelope(0, 0, 1000, 10);
            for (int key = 0; key < 4; key++) {
                x.begin(key, 100);
            }
            x.endAll();
            Object inside = ((Object[]) inside(x, "live", "choir", "voices"))[voice];
            int[] levels = {1000, 0, 1001, -1};
            for (int level : levels) {
                open(inside, "levelAtRelease").setInt(inside, level);
                boolean due = level >= 0 && level <= 1000;
                CHECK.due("the level " + level + " of the voice " + voice, due, x::isConsistent);
            }
        }
    }

    /** Two delays that keep their numbers in one row disturb each other in another way by blocks than by samples. */
    private static void blocksAreWrong() throws ReflectiveOperationException {
        ToneGraph x = new ToneGraph();
        x.addDelay(7, 0);
        x.connect(0, 1, 100);
        x.begin(40, 100);
        x.play(3);
        x.addDelay(7, 0);
        x.connect(0, 2, -100);
        x.setOutput(1);
        CHECK.due("as it should be", true, x::isConsistent);
        int[][] kept = (int[][]) inside(x, "trial", "kept");
        int[] own = kept[2];
        kept[2] = kept[1];
        CHECK.due("one row for two delays", false, x::isConsistent);
        kept[2] = own;
        CHECK.due("as it should be again", true, x::isConsistent);
    }
}
