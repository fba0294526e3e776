import java.io.IOException;
import java.nio.file.Files;
import java.nio.file.Path;
import java.util.ArrayList;
import java.util.List;
import java.util.Set;
import java.util.TreeSet;
import java.util.regex.Matcher;
import java.util.regex.Pattern;

/** The list of the edges names each test that is run, and no other; each promise has one. */
public final class EdgeListTest {
    private static final Path LIST = Path.of("src/test/EDGES.md");
    private static final Path TESTS = Path.of("src/test/java");
    private static final Pattern ROW = Pattern.compile("(?m)^\\| .* \\| .* \\| `(\\w+\\.\\w+)` \\|$");
    private static final Pattern CALL = Pattern.compile("(?m)^        (\\w+)\\(\\);$");
    private static final Pattern PROMISES = Pattern.compile("(?m)^## Promises? (\\d+)(?: (to|and) (\\d+))?$");

    private static int wrong = 0;

    private static void must(boolean is, String what) {
        if (!is) {
            wrong++;
            System.out.println("not so: " + what);
        }
    }

    private static List<String> rowsOf(String list) {
        List<String> rows = new ArrayList<>();
        Matcher row = ROW.matcher(list);
        while (row.find()) {
            rows.add(row.group(1));
        }
        return rows;
    }

    /** What the main methods of the edge tests call. */
    private static Set<String> testsRun() throws IOException {
        Set<String> run = new TreeSet<>();
        try (var files = Files.list(TESTS)) {
            for (Path file : files.filter(f -> f.toString().endsWith("Edges.java")).toList()) {
                String source = Files.readString(file);
                String name = file.getFileName().toString().replace(".java", "");
                Matcher call = CALL.matcher(source.substring(source.indexOf("public static void main")));
                while (call.find()) {
                    if (!call.group(1).equals("end")) {
                        run.add(name + "." + call.group(1));
                    }
                }
                must(source.contains("        end();\n    }\n}\n"), name + " ends by telling what was wrong");
                mustAllBeRun(name, source, run);
            }
        }
        return run;
    }

    private static void mustAllBeRun(String name, String source, Set<String> run) {
        Matcher test = Pattern.compile("private static void (\\w+)\\(\\) \\{").matcher(source);
        while (test.find()) {
            must(run.contains(name + "." + test.group(1)), name + "." + test.group(1) + " is run");
        }
    }

    private static void allPromisesHaveAPart(String list) {
        Set<Integer> told = new TreeSet<>();
        Matcher part = PROMISES.matcher(list);
        while (part.find()) {
            int first = Integer.parseInt(part.group(1));
            int last = part.group(3) == null ? first : Integer.parseInt(part.group(3));
            for (int k = first; k <= last; k++) {
                told.add(k);
            }
        }
        for (int k = 1; k <= 34; k++) {
            must(told.contains(k), "the list has promise " + k);
        }
    }

    public static void main(String[] args) throws IOException {
        String list = Files.readString(LIST);
        List<String> rows = rowsOf(list);
        Set<String> run = testsRun();
        for (String row : rows) {
            must(run.contains(row), row + " of the list is run");
        }
        for (String test : run) {
            must(rows.contains(test), test + " stands in the list");
        }
        must(new TreeSet<>(rows).size() == rows.size(), "each sentence has a test of its own");
        allPromisesHaveAPart(list);
        System.out.println(rows.size() + " sentences, " + wrong + " things not so");
        if (wrong != 0) {
            System.exit(1);
        }
    }
}
