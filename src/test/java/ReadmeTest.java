import java.io.File;
import java.io.IOException;
import java.nio.file.Files;
import java.nio.file.Path;
import java.util.ArrayList;
import java.util.Comparator;
import java.util.List;
import java.util.Set;
import java.util.TreeSet;
import java.util.regex.Matcher;
import java.util.regex.Pattern;
import java.util.stream.Stream;

/** What README.md says of the class's use and of running the tests is done here as written there. */
public final class ReadmeTest {
    private static final String SOURCE = "src/main/java/TalkHouse.java";
    /** This test is run by it, so it is the one command that is not done again. */
    private static final String ALL_TESTS = ".ci/run";
    /** A statement with its answer: a call, or a call whose answer is given a name. */
    private static final Pattern STATEMENT =
        Pattern.compile("(?:int (\\w+) = )?(house\\..*\\));\\s*// (-?\\d+|BAD|NO|FULL|NONE)(?:: .*)?");
    private static final String CHECK = """
            static boolean wrong = false;
            static int due(String call, long got, long want) {
                if (got != want) {
                    wrong = true;
                    System.out.println("README.md: " + call + " answered " + got + ", not " + want);
                }
                return (int) got;
            }
        """;

    private static int wrong = 0;

    public static void main(String[] args) throws IOException, InterruptedException {
        String readme = Files.readString(Path.of("README.md"));
        Path work = Files.createTempDirectory("readme");
        try {
            example(readme, work);
            commands(readme, work);
        } finally {
            remove(work);
        }
        callsOfTheFace(readme);
        testsThatThereAre(readme);
        System.out.println(wrong == 0 ? "README.md is right" : wrong + " things in README.md are not so");
        if (wrong != 0) {
            System.exit(1);
        }
    }

    private static void due(boolean holds, String what) {
        if (!holds) {
            wrong++;
            System.out.println("README.md: " + what);
        }
    }

    private static List<String> blocks(String readme, String language) {
        List<String> found = new ArrayList<>();
        Matcher m = Pattern.compile("(?s)\n```" + language + "\n(.*?)\n```\n").matcher(readme);
        while (m.find()) {
            found.add(m.group(1));
        }
        return found;
    }

    // ---- the example

    private static void example(String readme, Path work) throws IOException, InterruptedException {
        List<String> blocks = blocks(readme, "java");
        due(blocks.size() == 1, "one example is due, there are " + blocks.size());
        for (String block : blocks) {
            due(compileAndRun(work.resolve("plain"), program(block, "")) == 0, "the example does not run as it stands");
            due(compileAndRun(work.resolve("checked"), program(checked(block), CHECK)) == 0, "the example's answers");
        }
    }

    private static String program(String statements, String more) {
        String end = more.isEmpty() ? "" : "if (wrong) { System.exit(1); }\n";
        return "public final class Example {\n" + more
            + "public static void main(String[] args) {\n" + statements + "\n" + end + "}\n}\n";
    }

    /** Each call of the example with a look at its answer; a call without an answer in the text is told. */
    private static String checked(String block) {
        StringBuilder all = new StringBuilder();
        int calls = 0;
        for (String line : block.split("\n")) {
            Matcher m = STATEMENT.matcher(line);
            if (m.matches()) {
                String want = Character.isLetter(m.group(3).charAt(0)) ? "TalkHouse." + m.group(3) : m.group(3);
                all.append(m.group(1) == null ? "" : "int " + m.group(1) + " = ");
                all.append("due(\"" + m.group(2) + "\", " + m.group(2) + ", " + want + ");\n");
                calls++;
            } else {
                boolean isPlain = line.isEmpty() || line.startsWith("// ") || line.contains("new TalkHouse()");
                due(isPlain, "no answer stands with: " + line);
                all.append(line).append("\n");
            }
        }
        due(calls > 0, "the example has no calls");
        return all.toString();
    }

    private static int compileAndRun(Path home, String program) throws IOException, InterruptedException {
        Files.createDirectories(home);
        Path file = Files.writeString(home.resolve("Example.java"), program);
        String out = home.resolve("out").toString();
        int compiled = run(home, "javac", "-d", out, SOURCE, file.toString());
        return compiled != 0 ? compiled : run(home, "java", "-cp", out, "Example");
    }

    // ---- the commands

    private static void commands(String readme, Path work) throws IOException, InterruptedException {
        List<String> blocks = blocks(readme, "sh");
        due(blocks.contains(ALL_TESTS), "it does not say how all tests are run");
        due(new File(ALL_TESTS).canExecute(), ALL_TESTS + " cannot be run");
        for (String block : blocks) {
            if (!block.equals(ALL_TESTS)) {
                due(run(work, "sh", "-e", "-c", block) == 0, "these commands fail:\n" + block);
            }
        }
    }

    /** Runs a command from the project's directory, with the test's own directory for what it leaves behind. */
    private static int run(Path room, String... command) throws IOException, InterruptedException {
        Path told = room.resolve("told");
        ProcessBuilder p = new ProcessBuilder(command).redirectErrorStream(true).redirectOutput(told.toFile());
        p.environment().put("TMPDIR", room.toString());
        int code = p.start().waitFor();
        if (code != 0) {
            System.out.println(Files.readString(told));
        }
        return code;
    }

    private static void remove(Path work) throws IOException {
        try (Stream<Path> all = Files.walk(work)) {
            for (Path p : all.sorted(Comparator.reverseOrder()).toList()) {
                Files.delete(p);
            }
        }
    }

    // ---- the table of calls, and the list of tests

    private static Set<String> allOf(String text, String pattern) {
        Set<String> found = new TreeSet<>();
        Matcher m = Pattern.compile(pattern, Pattern.MULTILINE).matcher(text);
        while (m.find()) {
            found.add(m.group(1));
        }
        return found;
    }

    private static void callsOfTheFace(String readme) throws IOException {
        Set<String> face = new TreeSet<>();
        for (String call : allOf(Files.readString(Path.of(SOURCE)), "^    public (?:int|long) (\\w+\\(.*\\)) \\{$")) {
            face.add(call.replaceAll("\\b(?:int|long) ", ""));
        }
        Set<String> told = allOf(readme, "^\\| `(.*?)` \\|");
        due(told.equals(face), "its table has " + told + ", the class has " + face);
    }

    private static void testsThatThereAre(String readme) throws IOException {
        Set<String> there = new TreeSet<>();
        try (Stream<Path> all = Files.list(Path.of("src/test/java"))) {
            all.forEach(p -> there.add(p.getFileName().toString().replace(".java", "")));
        }
        Set<String> told = allOf(readme, "^- `(\\w+Test)`: ");
        due(told.equals(there), "it lists " + told + ", there are " + there);
    }
}
