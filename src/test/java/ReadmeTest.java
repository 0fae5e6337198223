import java.io.ByteArrayOutputStream;
import java.io.IOException;
import java.io.PrintStream;
import java.nio.charset.StandardCharsets;
import java.nio.file.Files;
import java.nio.file.Path;
import java.util.ArrayList;
import java.util.List;
import java.util.Set;
import java.util.TreeSet;
import java.util.regex.Matcher;
import java.util.regex.Pattern;
import java.util.stream.Stream;

/** README.md shows the calls of the document's face, an example that runs as told, and the command for all tests. */
public final class ReadmeTest {
    private static final Pattern CALL = Pattern.compile("^\\| `(\\w+\\([^)]*\\))` \\|", Pattern.MULTILINE);
    private static final Pattern FACE = Pattern.compile("^    public (?:int|boolean) (\\w+)\\(([^)]*)\\);", Pattern.MULTILINE);
    private static final Pattern USED = Pattern.compile("(?:coast\\.|PoolCoast\\.)(\\w+)");
    private static final Check CHECK = new Check();

    public static void main(String[] args) throws IOException {
        String readme = Files.readString(Path.of("README.md"));
        Set<String> face = face();
        CHECK.due("calls of the document's face", face.size(), 35);
        CHECK.due("the calls that are listed are the face", calls(readme).equals(face), true);
        CHECK.due("the list names each call once", CALL.matcher(readme).results().count(), face.size());
        example(readme, face);
        counted();
        faults();
        command(readme);
        CHECK.finish();
    }

    /** The calls as the document writes them, without their types. */
    private static Set<String> face() throws IOException {
        Set<String> calls = new TreeSet<>();
        Matcher m = FACE.matcher(Files.readString(Path.of("../shared/DOC.md")));
        while (m.find()) {
            calls.add(m.group(1) + "(" + m.group(2).replaceAll("(int|boolean) ", "") + ")");
        }
        return calls;
    }

    private static Set<String> calls(String readme) {
        Set<String> calls = new TreeSet<>();
        CALL.matcher(readme).results().forEach(r -> calls.add(r.group(1)));
        return calls;
    }

    private static void example(String readme, Set<String> face) throws IOException {
        String source = Files.readString(Path.of("src/test/java/Example.java"));
        CHECK.due("the example is Example.java", block(readme, "java").equals(source), true);
        CHECK.due("the example prints what is told", block(readme, "text").equals(printed()), true);
        Matcher m = USED.matcher(source);
        while (m.find()) {
            String start = m.group(1) + "(";
            CHECK.due(start + " is of the face", face.stream().anyMatch(call -> call.startsWith(start)), true);
        }
    }

    private static String block(String readme, String kind) {
        Matcher m = Pattern.compile("```" + kind + "\n(.*?)```", Pattern.DOTALL).matcher(readme);
        return m.find() ? m.group(1) : "";
    }

    private static String printed() {
        PrintStream before = System.out;
        ByteArrayOutputStream bytes = new ByteArrayOutputStream();
        System.setOut(new PrintStream(bytes, true, StandardCharsets.ISO_8859_1));
        Example.main(new String[0]);
        System.setOut(before);
        return bytes.toString(StandardCharsets.ISO_8859_1).replace(System.lineSeparator(), "\n");
    }

    /** What the list tells of the numbers of set, about, hour and count. */
    private static void counted() {
        PoolCoast x = new PoolCoast();
        x.pool(10, 0, 100, 50, 1, 2, 5);
        x.crack(0, 90, 1);
        x.sluice(0, true);
        x.pump(0, 1);
        x.dirt(0, 3, 0);
        x.pass(144);
        // Age: 50 + 51 + .. + 193 ticks are 17496, by 194 units 90, by 6 15 hours.
        int[] about = {19, 194, 15, 3, 1, 1, 144, 10};
        x.set(0, 7);
        x.set(1, 8);
        x.set(2, 9);
        int[] kept = {0, 2, 3};
        for (int what = 0; what < about.length; what++) {
            CHECK.due("about " + what, x.about(0, what), about[what]);
        }
        for (int what = 0; what < kept.length; what++) {
            CHECK.due("hour " + what, x.hour(0, 23, what), about[kept[what]]);
        }
        for (int what = 0; what < 3; what++) {
            CHECK.due("count " + (8 + what), x.count(8 + what), 7 + what);
        }
    }

    /** -3 less the answer of rules is 8 times the place and the kind. */
    private static void faults() {
        String[] texts = {"day<1 day", "day<12345", "(((((((((((day<1", "day<1;".repeat(8) + "day<1",
            "day<1 or ".repeat(24) + "day<1"};
        int[] places = {6, 4, 10, 48, 216};
        for (int kind = 0; kind < texts.length; kind++) {
            PoolCoast x = new PoolCoast();
            Example.tell(x, texts[kind]);
            CHECK.due("-3 less rules() of " + texts[kind], -3 - x.rules(), 8 * places[kind] + kind);
            CHECK.due("the tape is empty", x.count(7), 0);
        }
        PoolCoast x = new PoolCoast();
        Example.tell(x, "depth < 45; wave > 180 and not (hour < 7 or day = 3)");
        CHECK.due("the text that is shown", x.rules(), 2);
    }

    /** The command that is named runs each test here and each under ../shared/tests: its own lines say so. */
    private static void command(String readme) throws IOException {
        Path script = Path.of(".ci/run");
        CHECK.due("the command is named", readme.contains("\n    .ci/run\n"), true);
        CHECK.due("the command can be run", Files.isExecutable(script), true);
        List<String> lines = Files.readAllLines(script);
        CHECK.due("runs the tests here", lines.contains("run_tests \"$out/own\" src/test/java/*Test.java"), true);
        CHECK.due("runs the tests there", lines.contains("for file in ../shared/tests/*.java; do"), true);
        for (String name : namesOf(Path.of("src/test/java"))) {
            boolean runs = Files.readString(Path.of("src/test/java", name)).contains("static void main(");
            CHECK.due(name + " is run", name.endsWith("Test.java"), runs && !name.equals("Example.java"));
        }
    }

    private static List<String> namesOf(Path folder) throws IOException {
        List<String> names = new ArrayList<>();
        try (Stream<Path> files = Files.list(folder)) {
            files.forEach(file -> names.add(file.getFileName().toString()));
        }
        return names;
    }
}
