import java.io.IOException;
import java.lang.reflect.Constructor;
import java.lang.reflect.Field;
import java.lang.reflect.Method;
import java.lang.reflect.Modifier;
import java.nio.file.Files;
import java.nio.file.Path;
import java.util.ArrayList;
import java.util.Arrays;
import java.util.List;
import java.util.Set;
import java.util.TreeSet;
import java.util.regex.MatchResult;
import java.util.regex.Pattern;
import java.util.stream.Collectors;

/** The public face is that of the document, and the source keeps to those rules of LANGUAGE.md that words show. */
final class FaceTest {
    private static final Check CHECK = new Check();
    private static final List<String> FACE = List.of(
        "int addGain(int) IllegalArgumentException IllegalStateException",
        "int addDelay(int,int) IllegalArgumentException IllegalStateException",
        "int addFilter(int,int,int) IllegalArgumentException IllegalStateException",
        "int addBus(int) IllegalArgumentException IllegalStateException",
        "int connect(int,int,int) IndexOutOfBoundsException IllegalArgumentException IllegalStateException "
            + "UnsupportedOperationException",
        "int disconnect(int,int) IndexOutOfBoundsException NoSuchElementException",
        "int setGain(int,int) IndexOutOfBoundsException UnsupportedOperationException IllegalArgumentException",
        "int setOutput(int) IndexOutOfBoundsException",
        "int nodes()",
        "char kindOf(int) IndexOutOfBoundsException",
        "int wires(int) IndexOutOfBoundsException",
        "int wireFrom(int,int) IndexOutOfBoundsException NoSuchElementException",
        "int wirePercent(int,int) IndexOutOfBoundsException NoSuchElementException",
        "int nodeAt(int) IndexOutOfBoundsException",
        "int longestBlock()",
        "char setWave(char) IllegalArgumentException",
        "int setEnvelope(int,int,int,int) IllegalArgumentException",
        "int begin(int,int) IllegalArgumentException",
        "int end(int) IllegalArgumentException NoSuchElementException",
        "int endAll()",
        "int sounding()",
        "char stateOf(int) IndexOutOfBoundsException",
        "int keyOf(int) IndexOutOfBoundsException IllegalStateException",
        "int levelOf(int) IndexOutOfBoundsException",
        "int phaseOf(int) IndexOutOfBoundsException IllegalStateException",
        "int stolen()",
        "int play(int) IllegalArgumentException",
        "int step()",
        "int ahead(int) IllegalArgumentException",
        "int aheadByBlocks(int,int) IllegalArgumentException",
        "int heard(int) IllegalArgumentException NoSuchElementException",
        "int outputOf(int) IndexOutOfBoundsException",
        "int time()",
        "int greatest()",
        "long energy()",
        "double meanEnergy() ArithmeticException",
        "float quietShare() ArithmeticException",
        "boolean isConsistent()");

    private static final String EXCEPTIONS =
            "(IllegalState|IllegalArgument|IndexOutOfBounds|Arithmetic|UnsupportedOperation|NoSuchElement)Exception";

    private static final List<String> LIBRARY = List.of("java.lang.String", "java.lang.StringBuilder",
            "java.lang.Integer", "java.util.ArrayList", "java.util.List");

    public static void main(String[] args) throws IOException {
        face();
        names();
        shapes();
        String source = Files.readString(Path.of(args.length > 0 ? args[0] : "src/main/java/ToneGraph.java"));
        words(source);
        throwsOnlyWhatMayBeThrown(source);
        CHECK.close("FaceTest");
    }

    private static void face() {
        Class<?> type = ToneGraph.class;
        CHECK.due("public final class", Modifier.PUBLIC | Modifier.FINAL, type::getModifiers);
        Set<String> seen = new TreeSet<>();
        for (Method method : type.getDeclaredMethods()) {
            if (!Modifier.isPrivate(method.getModifiers()) && !method.isSynthetic()) {
                CHECK.due(method + " is public and no more", Modifier.PUBLIC, method::getModifiers);
                seen.add(told(method));
            }
        }
        CHECK.same("the methods", String.join("\n", new TreeSet<>(FACE)), String.join("\n", seen));
        Constructor<?>[] made = type.getDeclaredConstructors();
        CHECK.due("one constructor", 1, () -> made.length);
        CHECK.due("it is public", Modifier.PUBLIC, made[0]::getModifiers);
        CHECK.due("it takes nothing", 0, made[0]::getParameterCount);
        for (Field field : type.getDeclaredFields()) {
            CHECK.due(field + " is private", true, () -> Modifier.isPrivate(field.getModifiers()));
        }
    }

    private static String told(Method method) {
        String types = Arrays.stream(method.getParameterTypes()).map(Class::getName).collect(Collectors.joining(","));
        String line = method.getReturnType() + " " + method.getName() + "(" + types + ")";
        for (Class<?> exception : method.getExceptionTypes()) {
            line += " " + exception.getSimpleName();
        }
        return line;
    }

    /** Rule 1 and the sizes of rule 11. */
    private static void names() {
        Set<String> open = new TreeSet<>();
        for (String line : FACE) {
            open.add(line.substring(line.indexOf(' ') + 1, line.indexOf('(')));
        }
        Class<?>[] inside = ToneGraph.class.getDeclaredClasses();
        CHECK.due("not more than 12 classes", true, () -> inside.length < 12);
        for (Class<?> type : inside) {
            CHECK.due(type + " is static and not public", Modifier.STATIC,
                    () -> type.getModifiers() & (Modifier.STATIC | Modifier.PUBLIC | Modifier.PROTECTED));
            long fields = Arrays.stream(type.getDeclaredFields()).filter(f -> !Modifier.isStatic(f.getModifiers())).count();
            CHECK.due(type + " has not more than 20 fields", true, () -> fields <= 20);
            for (Method method : type.getDeclaredMethods()) {
                CHECK.due(method + " bears no name of the face", false, () -> open.contains(method.getName()));
            }
        }
    }

    /** Rules 3, 5 and 11: the types of fields, static fields that never change, and not more than 7 parameters. */
    private static void shapes() {
        List<Class<?>> types = new ArrayList<>(List.of(ToneGraph.class.getDeclaredClasses()));
        types.add(ToneGraph.class);
        for (Class<?> type : types) {
            for (Field field : type.getDeclaredFields()) {
                boolean fixed = !Modifier.isStatic(field.getModifiers()) || Modifier.isFinal(field.getModifiers());
                CHECK.due(field + " is final if it is static", true, () -> fixed);
                CHECK.due(field + " has a type of rule 3", true, () -> isPlain(field.getType(), types));
            }
            for (Method method : type.getDeclaredMethods()) {
                CHECK.due(method + " takes 7 at most", true, () -> method.getParameterCount() <= 7);
            }
            for (Constructor<?> constructor : type.getDeclaredConstructors()) {
                CHECK.due(constructor + " takes 7 at most", true, () -> constructor.getParameterCount() <= 7);
            }
        }
    }

    /** Rule 3; texts and lists are held by objects of the library. */
    private static boolean isPlain(Class<?> type, List<Class<?>> own) {
        if (!type.isArray()) {
            return type.isPrimitive() || own.contains(type) || LIBRARY.contains(type.getName());
        }
        Class<?> part = type.getComponentType();
        return part.isPrimitive() || own.contains(part) || part == String.class
                || part.isArray() && part.getComponentType().isPrimitive();
    }

    private static String withoutComments(String source) {
        return source.replaceAll("(?s)/\\*.*?\\*/", " ").replaceAll("//[^\n]*", " ");
    }

    /** Rule 6: throw new E() or throw new E("a written text"), E one of those that the document names. */
    private static void throwsOnlyWhatMayBeThrown(String source) {
        String[] parts = withoutComments(source).split("\\bthrow\\b");
        CHECK.due("it throws", true, () -> parts.length > 1);
        for (int i = 1; i < parts.length; i++) {
            String what = parts[i];
            CHECK.due("throw" + what.lines().findFirst().orElse(""), true,
                    () -> what.matches("(?s) new " + EXCEPTIONS + "\\((\"[ -~&&[^\"]]*\")?\\);.*"));
        }
    }

    private static void never(String rule, String code, String pattern) {
        CHECK.due(rule, "", () -> Pattern.compile(pattern, Pattern.MULTILINE).matcher(code).results()
                .map(MatchResult::group).collect(Collectors.joining(", ")));
    }

    private static void words(String source) {
        String code = withoutComments(source);
        never("no package line", code, "^\\s*package\\b");
        never("rule 2: no lambda", code, "^(?!\\s*(case|default)\\b).*->");
        never("rule 2: no method reference", code, "::");
        never("rule 4: no other import", code,
                "^import (?!java\\.util\\.(NoSuchElementException|ArrayList|Arrays|List|Iterator);).*");
        never("rule 4: no function whose name ends in Exact", code, "\\w*Exact\\b");
        never("rules 4 and 13: nothing of System but arraycopy", code, "System\\.(?!arraycopy\\b)\\w+");
        never("rule 5: no static initialiser", code, "\\bstatic\\s*\\{");
        never("rule 6", code, "\\b(finally|synchronized|assert|getMessage|hashCode)\\b");
        never("rule 6: no try with resources", code, "\\btry\\s*\\(");
        never("rule 6: no exception classes", code, "\\bextends\\s+\\w*(Exception|Error|Throwable)\\b");
        never("what the machine throws is not caught", code, "\\bcatch\\s*\\((?!(final )?" + EXCEPTIONS + ").*");
        never("rule 13", code, "\\b(Thread\\w*|Random|Runtime|File|Socket|Instant|LocalDate\\w*)\\b");
        CHECK.due("signs up to 127", true, () -> source.chars().allMatch(sign -> sign < 128));
    }
}
