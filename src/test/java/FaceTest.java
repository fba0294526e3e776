import java.io.IOException;
import java.lang.reflect.Constructor;
import java.lang.reflect.Field;
import java.lang.reflect.Method;
import java.lang.reflect.Modifier;
import java.nio.file.Files;
import java.nio.file.Path;
import java.util.Set;
import java.util.TreeSet;
import java.util.regex.Matcher;
import java.util.regex.Pattern;

/** The public face is the document's and no more; the source keeps out what LANGUAGE.md rules out. */
public final class FaceTest {
    private static final String SOURCE = "src/main/java/StepBack.java";
    private static final Path DOCUMENT = Path.of("../shared/DOC.md");
    private static final Pattern METHOD = Pattern.compile("(?m)^    public (int|long) (\\w+)\\((.*)\\);$");
    private static final Pattern CONSTANTS = Pattern.compile("(?m)^    public static final (int|long) (.*);$");
    private static final int METHODS_DUE = 33, CONSTANTS_DUE = 6, MOST_LINES = 60, MOST_FIELDS = 20;
    private static final String RULED_OUT = "\\b(throw|throws|try|catch|synchronized|assert|import|package|Exact"
        + "|Exception|Object|System\\.(?!arraycopy)|Random|Thread|hashCode|toString|equals)\\b|->|::|@";

    private static int wrong = 0;

    private static void must(boolean is, String what) {
        if (!is) {
            wrong++;
            System.out.println("not so: " + what);
        }
    }

    private static String signature(Method m) {
        StringBuilder s = new StringBuilder(m.getReturnType().getName()).append(' ').append(m.getName()).append('(');
        for (Class<?> type : m.getParameterTypes()) {
            s.append(s.charAt(s.length() - 1) == '(' ? "" : ",").append(type.getName());
        }
        return s.append(')').toString();
    }

    /** "int owes(int p, int other);" is told as "int owes(int,int)". */
    private static Set<String> methodsOf(String document) {
        Set<String> due = new TreeSet<>();
        Matcher m = METHOD.matcher(document);
        while (m.find()) {
            String types = m.group(3).replaceAll("(\\w+) \\w+", "$1").replace(" ", "");
            due.add(m.group(1) + " " + m.group(2) + "(" + types + ")");
        }
        must(due.size() == METHODS_DUE, "the document has " + METHODS_DUE + " methods");
        return due;
    }

    /** Names with types and values, as in "int NONE = -9". */
    private static Set<String> constantsOf(String document) {
        Set<String> due = new TreeSet<>();
        Matcher m = CONSTANTS.matcher(document);
        while (m.find()) {
            for (String constant : m.group(2).split(", ")) {
                due.add(m.group(1) + " " + constant.replace("Long.MIN_VALUE", Long.toString(Long.MIN_VALUE)));
            }
        }
        must(due.size() == CONSTANTS_DUE, "the document has " + CONSTANTS_DUE + " constants");
        return due;
    }

    private static void fields(Set<String> due) throws IllegalAccessException {
        Set<String> found = new TreeSet<>();
        for (Field f : StepBack.class.getDeclaredFields()) {
            if (Modifier.isPublic(f.getModifiers()) && Modifier.isStatic(f.getModifiers())) {
                found.add(f.getType().getName() + " " + f.getName() + " = " + f.get(null));
            } else {
                must(Modifier.isPrivate(f.getModifiers()), "private " + f);
            }
        }
        must(found.equals(due), "the constants are the document's: " + found);
    }

    private static void fieldsOfAny(Class<?> c) {
        int many = 0;
        for (Field f : c.getDeclaredFields()) {
            must(!Modifier.isStatic(f.getModifiers()) || Modifier.isFinal(f.getModifiers()), "final " + f);
            many += Modifier.isStatic(f.getModifiers()) ? 0 : 1;
        }
        must(many <= MOST_FIELDS, "some twenty fields: " + c);
    }

    private static void face() throws IOException, IllegalAccessException {
        Class<?> c = StepBack.class;
        String document = Files.readString(DOCUMENT);
        must(Modifier.isPublic(c.getModifiers()) && Modifier.isFinal(c.getModifiers()), "public and final");
        Set<String> due = methodsOf(document);
        Set<String> names = new TreeSet<>();
        Set<String> found = new TreeSet<>();
        for (Method m : c.getDeclaredMethods()) {
            if (!Modifier.isPrivate(m.getModifiers())) {
                must(Modifier.isPublic(m.getModifiers()), "public: " + m);
                found.add(signature(m));
                names.add(m.getName());
            }
        }
        must(found.equals(due), "the methods are the document's: " + found);
        for (Constructor<?> made : c.getDeclaredConstructors()) {
            must(Modifier.isPublic(made.getModifiers()) && made.getParameterCount() == 0, "constructor " + made);
        }
        fields(constantsOf(document));
        must(c.getDeclaredClasses().length <= 12, "some twelve classes");
        ownNames(c, names);
        fieldsOfAny(c);
        for (Class<?> inside : c.getDeclaredClasses()) {
            must(Modifier.isStatic(inside.getModifiers()), "static " + inside);
            ownNames(inside, names);
            fieldsOfAny(inside);
        }
    }

    private static void ownNames(Class<?> c, Set<String> names) {
        for (Method m : c.getDeclaredMethods()) {
            boolean isOfFace = c == StepBack.class && Modifier.isPublic(m.getModifiers());
            must(isOfFace || !names.contains(m.getName()), "a name of its own: " + m);
            must(m.getParameterCount() <= 7, "at most seven parameters: " + m);
        }
    }

    private static void source() throws IOException {
        String text = Files.readString(Path.of(SOURCE)).replaceAll("(?s)/\\*.*?\\*/", "").replaceAll("//[^\n]*", "");
        Matcher m = Pattern.compile(RULED_OUT).matcher(text);
        while (m.find()) {
            must(false, "ruled out of the source: " + m.group());
        }
        must(Files.readString(Path.of(SOURCE)).chars().allMatch(c -> c < 128), "plain signs");
    }

    /** By the indents: a method begins with a line that ends in ") {" and ends with its brace. */
    private static void methodsStayShort() throws IOException {
        Matcher m = Pattern.compile("(?ms)^( {4}| {8})(?! |for|if|while|switch|\\})([^\n]*\\) \\{)\n(.*?)^\\1\\}$")
            .matcher(Files.readString(Path.of(SOURCE)));
        int seen = 0;
        while (m.find()) {
            seen++;
            must(m.group(3).lines().count() <= MOST_LINES, "some sixty lines: " + m.group(2));
        }
        must(seen > METHODS_DUE, "all methods are seen");
    }

    public static void main(String[] args) throws IOException, IllegalAccessException {
        face();
        source();
        methodsStayShort();
        System.out.println(wrong == 0 ? "the face is as due" : wrong + " not as due");
        if (wrong != 0) {
            System.exit(1);
        }
    }
}
