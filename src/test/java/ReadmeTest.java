import java.io.IOException;
import java.lang.reflect.Method;
import java.lang.reflect.Modifier;
import java.nio.file.Files;
import java.nio.file.Path;
import java.util.List;
import java.util.stream.Collectors;
import java.util.stream.Stream;

/** README.md holds what it says: its example is the one that runs here, and it names every call and every test. */
final class ReadmeTest {
    private static final Check CHECK = new Check();
    private static final Path TESTS = Path.of("src/test/java");

    public static void main(String[] args) throws IOException {
        String readme = Files.readString(Path.of("README.md"));
        String source = Files.readString(TESTS.resolve("ReadmeTest.java"));
        CHECK.same("the example", between(source, "// the example\n", "// its answers\n"), between(readme, "```java\n", "```\n"));
        example();
        namesEveryCall(readme);
        namesEveryTest(readme);
        CHECK.close("ReadmeTest");
    }

    /** The lines between two signs, without the blanks around them. */
    private static String between(String text, String first, String last) {
        int start = text.indexOf(first);
        int end = start < 0 ? -1 : text.indexOf(last, start + first.length());
        if (end < 0) {
            return "not there";
        }
        return text.substring(start + first.length(), end).lines().map(String::strip).collect(Collectors.joining("\n")).strip();
    }

    private static void example() {
        // the example
        ToneGraph graph = new ToneGraph();        // node 0, the voices, is the output
        int echo = graph.addDelay(40, 50);        // 1: keeps 40 samples, 50 percent of each come back
        int bus = graph.addBus(900);              // 2: goes on more gently beyond 900
        graph.connect(0, echo, 60);
        graph.connect(0, bus, 100);
        graph.connect(echo, bus, 100);
        graph.setOutput(bus);

        graph.setWave('t');
        graph.setEnvelope(10, 20, 600, 50);       // attack, decay, sustain, release
        int voice = graph.begin(24, 80);          // 0: the voice that plays the key 24 with the velocity 80
        int sample = graph.play(64);              // -239: the last one of 64 samples
        int third = graph.heard(61);              // -158: the third one of them
        graph.end(24);
        int later = graph.ahead(40);              // -55: what 40 more samples would come to; nothing is played
        char state = graph.stateOf(voice);        // r: its note is released, and sounds for 50 samples more
        // its answers
        CHECK.same("the answers", "1 2 0 -239 -158 -55 r",
                echo + " " + bus + " " + voice + " " + sample + " " + third + " " + later + " " + state);
        graph.play(49);
        CHECK.due("it sounds for 50 samples more", 1, graph::sounding);
        graph.step();
        CHECK.due("and then no longer", 0, graph::sounding);
    }

    private static void namesEveryCall(String readme) {
        for (Method method : ToneGraph.class.getDeclaredMethods()) {
            if (Modifier.isPublic(method.getModifiers())) {
                boolean bare = method.getParameterCount() == 0;
                String call = "`" + method.getName() + (bare ? "()`" : "(");
                CHECK.due("README.md names " + call, true, () -> readme.contains(call));
            }
        }
    }

    private static void namesEveryTest(String readme) throws IOException {
        List<String> files;
        try (Stream<Path> all = Files.list(TESTS)) {
            files = all.map(path -> path.getFileName().toString()).sorted().toList();
        }
        for (String file : files) {
            String name = "`" + file.replace(".java", "") + "`";
            CHECK.due("README.md names " + name, true, () -> readme.contains(name));
        }
    }
}
