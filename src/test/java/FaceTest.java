import java.io.IOException;
import java.lang.reflect.Constructor;
import java.lang.reflect.Field;
import java.lang.reflect.Method;
import java.lang.reflect.Modifier;
import java.nio.file.Files;
import java.nio.file.Path;
import java.util.Set;
import java.util.TreeSet;
import java.util.regex.Matcher;
import java.util.regex.Pattern;

/** The public face is the document's and no more; the source keeps out what LANGUAGE.md rules out. */
public final class FaceTest {
    private static final String SOURCE = "src/main/java/StepBack.java";
    private static final String FACE = "int line(int,int,int,int)|int ofPerson(int,int)|int hurry(int,int)"
        + "|int wall(int,int)|int lease(int)|int go()|int morning()|int owes(int,int)|int pays(int,int,int)"
        + "|int calls(int,int,int,int,int)|int order(int,int)|int loss(int)|int let(int,int)|int balance(int)"
        + "|int cleared(int)|int were(int,int,int)|int reading(int,int,int)|int back(int)|int hastes(int)"
        + "|int rooms(int)|int kinds(int)|long odds(int,int)|int sheet(int,int,int)|int lose(int)"
        + "|int put(int,int,int)|long cell(int,int,int)|int copy(int,int,int,int,int)|int tell(int)|int hear(int)"
        + "|int as(int,int)|int trace()|int fault()|int many(int)";
    private static final Set<String> CONSTANTS = Set.of("UNKNOWN", "OUTSIDE", "STATE", "FULL", "NONE", "LOST");
    private static final String RULED_OUT = "\\b(throw|throws|try|catch|synchronized|assert|import|package|Exact"
        + "|Exception|Object|System\\.(?!arraycopy)|Random|Thread|hashCode|toString|equals)\\b|->|::|@";

    private static int wrong = 0;

    private static void must(boolean is, String what) {
        if (!is) {
            wrong++;
            System.out.println("not so: " + what);
        }
    }

    private static String signature(Method m) {
        StringBuilder s = new StringBuilder(m.getReturnType().getName()).append(' ').append(m.getName()).append('(');
        for (Class<?> type : m.getParameterTypes()) {
            s.append(s.charAt(s.length() - 1) == '(' ? "" : ",").append(type.getName());
        }
        return s.append(')').toString();
    }

    private static void face() {
        Class<?> c = StepBack.class;
        must(Modifier.isPublic(c.getModifiers()) && Modifier.isFinal(c.getModifiers()), "public and final");
        Set<String> due = new TreeSet<>(Set.of(FACE.split("\\|")));
        Set<String> names = new TreeSet<>();
        Set<String> found = new TreeSet<>();
        for (Method m : c.getDeclaredMethods()) {
            if (!Modifier.isPrivate(m.getModifiers())) {
                must(Modifier.isPublic(m.getModifiers()), "public: " + m);
                found.add(signature(m));
                names.add(m.getName());
            }
        }
        must(found.equals(due), "the methods are the document's: " + found);
        for (Constructor<?> made : c.getDeclaredConstructors()) {
            must(Modifier.isPublic(made.getModifiers()) && made.getParameterCount() == 0, "constructor " + made);
        }
        for (Field f : c.getDeclaredFields()) {
            boolean isOfFace = CONSTANTS.contains(f.getName());
            must(Modifier.isPublic(f.getModifiers()) == isOfFace, "constant " + f);
            must(isOfFace || Modifier.isPrivate(f.getModifiers()), "private " + f);
            must(!Modifier.isStatic(f.getModifiers()) || Modifier.isFinal(f.getModifiers()), "final " + f);
        }
        must(c.getDeclaredClasses().length <= 12, "some twelve classes");
        ownNames(c, names);
        for (Class<?> inside : c.getDeclaredClasses()) {
            must(Modifier.isStatic(inside.getModifiers()), "static " + inside);
            ownNames(inside, names);
        }
    }

    private static void ownNames(Class<?> c, Set<String> names) {
        for (Method m : c.getDeclaredMethods()) {
            boolean isOfFace = c == StepBack.class && Modifier.isPublic(m.getModifiers());
            must(isOfFace || !names.contains(m.getName()), "a name of its own: " + m);
            must(m.getParameterCount() <= 7, "at most seven parameters: " + m);
        }
    }

    private static void source() throws IOException {
        String text = Files.readString(Path.of(SOURCE)).replaceAll("(?s)/\\*.*?\\*/", "").replaceAll("//[^\n]*", "");
        Matcher m = Pattern.compile(RULED_OUT).matcher(text);
        while (m.find()) {
            must(false, "ruled out of the source: " + m.group());
        }
        must(Files.readString(Path.of(SOURCE)).chars().allMatch(c -> c < 128), "plain signs");
    }

    public static void main(String[] args) throws IOException {
        face();
        source();
        System.out.println(wrong == 0 ? "the face is as due" : wrong + " not as due");
        if (wrong != 0) {
            System.exit(1);
        }
    }
}
