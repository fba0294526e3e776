import java.io.IOException;
import java.lang.reflect.Method;
import java.lang.reflect.Modifier;
import java.nio.file.Files;
import java.nio.file.Path;
import java.util.ArrayList;
import java.util.Comparator;
import java.util.List;
import java.util.Set;
import java.util.TreeSet;
import java.util.regex.Matcher;
import java.util.regex.Pattern;

/** What README.md says of the use of the class and of its tests is so. */
public final class ReadmeTest {
    private static final Path README = Path.of("README.md");
    private static final String CLASS = "src/main/java/StepBack.java";
    private static final String ALL_TESTS = ".ci/run";
    private static final Pattern CALL = Pattern.compile("mine\\.(\\w+)\\(");
    private static final Pattern ANSWERED =
        Pattern.compile("^\\s*(mine\\.\\w+\\(.*\\));\\s*// (-?\\d+|[A-Z]+)(?::.*)?$");
    private static final Pattern TEST_NAMED = Pattern.compile("`(\\w+(?:Test|Edges))`");

    private static int wrong = 0;

    private static void must(boolean is, String what) {
        if (!is) {
            wrong++;
            System.out.println("not so: " + what);
        }
    }

    /** The lines of all pieces of one language, one behind another. */
    private static List<String> linesOf(String page, String language) {
        List<String> lines = new ArrayList<>();
        Matcher piece = Pattern.compile("(?ms)^```" + language + "\n(.*?)^```$").matcher(page);
        while (piece.find()) {
            lines.addAll(piece.group(1).lines().toList());
        }
        return lines;
    }

    // ---- the calls

    /** A program of the page's lines that compares the answer of each call with the one told behind it. */
    private static String programOf(List<String> lines) {
        StringBuilder s = new StringBuilder("public final class UseOfReadme {\n    static int wrong = 0;\n"
            + "    static void told(String call, long got, long told) {\n"
            + "        if (got != told) {\n            wrong++;\n"
            + "            System.out.println(call + \" answered \" + got + \", the page says \" + told);\n"
            + "        }\n    }\n    public static void main(String[] args) {\n");
        for (String line : lines) {
            Matcher answered = ANSWERED.matcher(line);
            boolean tells = answered.matches();
            must(tells || !CALL.matcher(line).find(), "the page tells what it answers: " + line.strip());
            s.append(tells ? comparison(answered.group(1), answered.group(2)) : line).append('\n');
        }
        return s.append("        System.exit(wrong == 0 ? 0 : 1);\n    }\n}\n").toString();
    }

    private static String comparison(String call, String answer) {
        String told = Character.isLetter(answer.charAt(0)) ? "StepBack." + answer : answer + "L";
        return "told(\"" + call + "\", " + call + ", " + told + ");";
    }

    private static void callsAnswerSo(List<String> lines, Path room) throws IOException, InterruptedException {
        Path program = room.resolve("UseOfReadme.java");
        Files.writeString(program, programOf(lines));
        String classes = room.resolve("classes").toString();
        Path here = Path.of("");
        must(runs(here, "javac", "-encoding", "UTF-8", "-d", classes, CLASS, program.toString())
            && runs(here, "java", "-cp", classes, "UseOfReadme"), "each call answers as the page says");
    }

    private static void allCallsAreShown(List<String> lines) {
        Set<String> shown = new TreeSet<>();
        Matcher call = CALL.matcher(String.join("\n", lines));
        while (call.find()) {
            shown.add(call.group(1));
        }
        for (Method m : StepBack.class.getDeclaredMethods()) {
            boolean isOfFace = Modifier.isPublic(m.getModifiers());
            must(!isOfFace || shown.contains(m.getName()), "the page shows " + m.getName());
        }
    }

    // ---- the commands

    private static boolean runs(Path where, String... command) throws IOException, InterruptedException {
        Process p = new ProcessBuilder(command).directory(where.toAbsolutePath().toFile())
            .redirectErrorStream(true).start();
        String said = new String(p.getInputStream().readAllBytes());
        boolean well = p.waitFor() == 0;
        if (!well) {
            System.out.print(said);
        }
        return well;
    }

    /** A checkout with nothing that was built, and the shared directory beside it. */
    private static Path cleanCheckout(Path room) throws IOException {
        Path copy = Files.createDirectory(room.resolve("main"));
        for (String part : new String[] {"src", ".ci"}) {
            try (var files = Files.walk(Path.of(part))) {
                for (Path file : files.toList()) {
                    Files.copy(file, copy.resolve(file.toString()));
                }
            }
        }
        Files.createSymbolicLink(room.resolve("shared"), Path.of("../shared").toRealPath());
        return copy;
    }

    /** But for the one that runs this test: it is there, and can be run. */
    private static void commandsRun(List<String> commands, Path room) throws IOException, InterruptedException {
        must(commands.contains(ALL_TESTS), "the page tells how all tests are run");
        must(Files.isExecutable(Path.of(ALL_TESTS)), ALL_TESTS + " can be run");
        Path checkout = cleanCheckout(room);
        for (String command : commands) {
            must(command.equals(ALL_TESTS) || runs(checkout, "sh", "-c", command), "it runs: " + command);
        }
    }

    // ---- the list of the tests

    private static void testsAreListed(String page) throws IOException {
        Set<String> listed = new TreeSet<>();
        for (String line : page.lines().filter(l -> l.startsWith("- ")).toList()) {
            Matcher named = TEST_NAMED.matcher(line);
            while (named.find()) {
                listed.add(named.group(1));
            }
        }
        Set<String> there = new TreeSet<>();
        try (var files = Files.list(Path.of("src/test/java"))) {
            files.forEach(f -> there.add(f.getFileName().toString().replace(".java", "")));
        }
        must(listed.equals(there), "the page lists " + listed + ", there are " + there);
    }

    private static void clear(Path room) throws IOException {
        try (var files = Files.walk(room)) {
            for (Path file : files.sorted(Comparator.reverseOrder()).toList()) {
                Files.delete(file);
            }
        }
    }

    public static void main(String[] args) throws IOException, InterruptedException {
        String page = Files.readString(README);
        List<String> calls = linesOf(page, "java");
        List<String> commands = linesOf(page, "sh");
        Path room = Files.createTempDirectory("readme");
        try {
            callsAnswerSo(calls, room);
            allCallsAreShown(calls);
            commandsRun(commands, room);
            testsAreListed(page);
        } finally {
            clear(room);
        }
        System.out.println(calls.size() + " lines of use, " + commands.size() + " commands, " + wrong + " not so");
        if (wrong != 0) {
            System.exit(1);
        }
    }
}
