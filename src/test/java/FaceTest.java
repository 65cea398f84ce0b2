import java.io.IOException;
import java.lang.reflect.Constructor;
import java.lang.reflect.Field;
import java.lang.reflect.Method;
import java.lang.reflect.Modifier;
import java.nio.file.DirectoryStream;
import java.nio.file.Files;
import java.nio.file.Path;
import java.util.Arrays;
import java.util.Set;
import java.util.TreeSet;
import java.util.regex.Matcher;
import java.util.regex.Pattern;

/** The face of the class is that of the document, and its source keeps to rules that can be looked up. */
public final class FaceTest {
    private static final Checks CHECKS = new Checks();
    private static final String[] FACE = {
        "int feed(int)", "int end(int)", "int text()", "int fault()", "int rule(int)", "int key(int,int)",
        "int press(int,int)", "int contact(int,int)", "int alter(int,int,int)", "int every(int)",
        "int strike(int,int,int)", "int drop(int)", "int ticks(int)", "int runs(int,int)", "int ahead(int,int,int)",
        "int when(int,int)", "int due(int)", "int need(int,int,int)", "int bear(int,int,int)", "int kind(int,int,int)",
        "int slow(int,int)", "int lose(int,int)", "long luck(int,int,int,int)", "long mean(int,int,int)",
        "int see(int,int,int)", "int forget(int)", "int kinds(int)", "int numbers(int)", "int bounces(int)",
        "int ask(int,int)", "int drift(int,int,int)", "int keep(int)", "int back(int)", "int sheet(int,int,int)",
        "int lay(int,int,int)", "int read(int,int,int,int)", "int torn()", "int count(int)"};

    public static void main(String[] args) throws IOException {
        constants();
        members();
        nestedClasses();
        source();
        promisesWithEdges();
        CHECKS.finish();
    }

    private static void constants() {
        CHECKS.due("BAD", KeySieves.BAD, -1);
        CHECKS.due("STATE", KeySieves.STATE, -2);
        CHECKS.due("FULL", KeySieves.FULL, -3);
        CHECKS.due("NONE", KeySieves.NONE, -4);
    }

    private static void members() {
        CHECKS.due("final", KeySieves.class.getModifiers() & (Modifier.FINAL | Modifier.PUBLIC), Modifier.FINAL | Modifier.PUBLIC);
        Set<String> methods = new TreeSet<>();
        Set<String> publicNames = new TreeSet<>();
        Set<String> privateNames = new TreeSet<>();
        for (Method m : KeySieves.class.getDeclaredMethods()) {
            if (m.isSynthetic()) {
                continue;
            }
            if (Modifier.isPrivate(m.getModifiers())) {
                privateNames.add(m.getName());
                continue;
            }
            CHECKS.due(m + " is public", m.getModifiers(), Modifier.PUBLIC);
            publicNames.add(m.getName());
            StringBuilder s = new StringBuilder(m.getReturnType() + " " + m.getName() + "(");
            for (Class<?> p : m.getParameterTypes()) {
                s.append(s.charAt(s.length() - 1) == '(' ? "" : ",").append(p);
            }
            methods.add(s + ")");
        }
        CHECKS.same("the methods", methods.toString(), new TreeSet<>(Arrays.asList(FACE)).toString());
        privateNames.retainAll(publicNames);
        CHECKS.same("private names that are public ones", privateNames.toString(), "[]");
        Set<String> fields = new TreeSet<>();
        for (Field f : KeySieves.class.getDeclaredFields()) {
            if (!Modifier.isPrivate(f.getModifiers())) {
                fields.add(Modifier.toString(f.getModifiers()) + " " + f.getType() + " " + f.getName());
            }
        }
        String constant = "public static final int ";
        CHECKS.same("the fields", fields.toString(), "[" + constant + "BAD, " + constant + "FULL, " + constant + "NONE, "
            + constant + "STATE]");
        Constructor<?>[] made = KeySieves.class.getDeclaredConstructors();
        CHECKS.due("constructors", made.length, 1);
        CHECKS.due("it takes", made[0].getParameterCount(), 0);
        CHECKS.due("it is public", made[0].getModifiers(), Modifier.PUBLIC);
    }

    private static void nestedClasses() {
        Class<?>[] inside = KeySieves.class.getDeclaredClasses();
        CHECKS.due("not too many classes", inside.length < 12 ? 1 : 0, 1);
        for (Class<?> c : inside) {
            CHECKS.due(c + " is static", Modifier.isStatic(c.getModifiers()) ? 1 : 0, 1);
            CHECKS.due(c + " is not public", c.getModifiers() & (Modifier.PUBLIC | Modifier.PROTECTED), 0);
            int own = 0;
            for (Field f : c.getDeclaredFields()) {
                boolean fixed = Modifier.isStatic(f.getModifiers());
                own += fixed ? 0 : 1;
                CHECKS.due(f + " that is static is final", fixed && !Modifier.isFinal(f.getModifiers()) ? 1 : 0, 0);
            }
            CHECKS.due(c + " has few fields", own <= 20 ? 1 : 0, 1);
        }
    }

    /** Each promise is named by a test of its boundaries. */
    private static void promisesWithEdges() throws IOException {
        StringBuilder tests = new StringBuilder();
        try (DirectoryStream<Path> edges = Files.newDirectoryStream(Path.of("src/test/java"), "Edge*Test.java")) {
            for (Path edge : edges) {
                tests.append(Files.readString(edge));
            }
        }
        for (int promise = 1; promise <= 39; promise++) {
            CHECKS.due("edges of promise " + promise, tests.indexOf(" edge(" + promise + ", ") >= 0 ? 1 : 0, 1);
        }
    }

    private static void source() throws IOException {
        String source = Files.readString(Path.of("src/main/java/KeySieves.java"));
        String code = source.replaceAll("(?s)/\\*.*?\\*/", "").replaceAll("//[^\n]*", "").replaceAll("\"[^\"]*\"", "\"\"");
        String[] banned = {"throw", "throws", "try", "catch", "finally", "synchronized", "assert", "import", "package",
            "protected", "Exact", "System", "Object", "equals", "hashCode", "toString", "->", "::"};
        for (String word : banned) {
            String edge = Character.isLetter(word.charAt(0)) ? "\\b" : "";
            Matcher m = Pattern.compile(edge + Pattern.quote(word) + edge).matcher(code);
            CHECKS.due("'" + word + "' in the source", m.find() ? 1 : 0, 0);
        }
        CHECKS.due("signs beyond 127", source.chars().filter(c -> c > 126).count(), 0);
    }
}
