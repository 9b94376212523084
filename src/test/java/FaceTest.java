import java.lang.reflect.Constructor;
import java.lang.reflect.Field;
import java.lang.reflect.Method;
import java.lang.reflect.Modifier;
import java.nio.charset.StandardCharsets;
import java.nio.file.Files;
import java.nio.file.Path;
import java.util.Arrays;
import java.util.List;
import java.util.Set;
import java.util.TreeSet;

/** The public face is the document's, and the source keeps to those rules of LANGUAGE.md that a text shows. */
public final class FaceTest {
    private static final String[] FACE = {
        "int setMill(int, int, int, int) throws IllegalArgumentException, IllegalStateException",
        "int order(int, int, int, int, int) throws IllegalArgumentException, IllegalStateException",
        "int reel(int) throws IllegalArgumentException, IllegalStateException",
        "int flaw(int, int, int, int) throws IndexOutOfBoundsException, IllegalArgumentException,"
            + " UnsupportedOperationException",
        "int plan(int) throws IllegalArgumentException, UnsupportedOperationException, NoSuchElementException",
        "int unused()",
        "int patternAt(int, int) throws IndexOutOfBoundsException",
        "int trim() throws NoSuchElementException",
        "int bound(int) throws IllegalArgumentException",
        "int moves() throws NoSuchElementException, UnsupportedOperationException",
        "int cut(int, int, int) throws IndexOutOfBoundsException, UnsupportedOperationException,"
            + " IllegalStateException",
        "int shift(int, int) throws IndexOutOfBoundsException, NoSuchElementException",
        "int rolls()",
        "int rollOf(int, char) throws IndexOutOfBoundsException, IllegalArgumentException",
        "char stateOf(int) throws IndexOutOfBoundsException",
        "int give(int, int) throws IndexOutOfBoundsException, UnsupportedOperationException",
        "int held(int) throws IndexOutOfBoundsException",
        "int ship(int) throws IndexOutOfBoundsException, UnsupportedOperationException",
        "boolean isShipped(int) throws IndexOutOfBoundsException",
        "int claim(int) throws IndexOutOfBoundsException",
        "int patterns(int) throws IllegalArgumentException",
        "long weight(char) throws IllegalArgumentException",
        "float yieldShare() throws ArithmeticException",
        "double meanFlaw() throws ArithmeticException",
        "boolean isSound()",
    };

    public static void main(String[] args) throws Exception {
        theFaceIsTheDocuments();
        nothingElseIsSeen();
        theSourceKeepsToTheRules();
        Check.end();
    }

    private static void theFaceIsTheDocuments() {
        Set<String> got = new TreeSet<>();
        for (Method method : Trimwinder.class.getDeclaredMethods()) {
            if (!Modifier.isPrivate(method.getModifiers())) {
                Check.same(method.getName() + " is public", true, Modifier.isPublic(method.getModifiers()));
                Check.same(method.getName() + " is static", false, Modifier.isStatic(method.getModifiers()));
                got.add(signature(method));
            }
        }
        Check.same("the face", new TreeSet<>(Arrays.asList(FACE)).toString(), got.toString());
        Check.same("the class is public and final", Modifier.PUBLIC | Modifier.FINAL,
                Trimwinder.class.getModifiers());
    }

    private static String signature(Method method) {
        StringBuilder text = new StringBuilder();
        text.append(method.getReturnType().getSimpleName()).append(' ').append(method.getName()).append('(');
        text.append(names(method.getParameterTypes())).append(')');
        if (method.getExceptionTypes().length > 0) {
            text.append(" throws ").append(names(method.getExceptionTypes()));
        }
        return text.toString();
    }

    private static String names(Class<?>[] types) {
        StringBuilder text = new StringBuilder();
        for (Class<?> type : types) {
            text.append(text.length() > 0 ? ", " : "").append(type.getSimpleName());
        }
        return text.toString();
    }

    private static void nothingElseIsSeen() {
        for (Field field : Trimwinder.class.getDeclaredFields()) {
            Check.same(field.getName() + " is private", true, Modifier.isPrivate(field.getModifiers()));
            if (Modifier.isStatic(field.getModifiers())) {
                Check.same(field.getName() + " is final", true, Modifier.isFinal(field.getModifiers()));
            }
        }
        Constructor<?>[] constructors = Trimwinder.class.getDeclaredConstructors();
        Check.same("constructors", 1, constructors.length);
        Check.same("the constructor", "public Trimwinder()", constructors[0].toString());
        Class<?>[] inner = Trimwinder.class.getDeclaredClasses();
        Check.same("at most twelve classes", true, inner.length < 12);
        for (Class<?> one : inner) {
            Check.same(one.getName() + " is static", true, Modifier.isStatic(one.getModifiers()));
            Check.same(one.getName() + " is public", false, Modifier.isPublic(one.getModifiers()));
            Check.same(one.getName() + " is protected", false, Modifier.isProtected(one.getModifiers()));
            checkNames(one);
        }
        checkNames(Trimwinder.class);
    }

    private static void checkNames(Class<?> type) {
        for (Method method : type.getDeclaredMethods()) {
            boolean hidden = type != Trimwinder.class || Modifier.isPrivate(method.getModifiers());
            for (String line : FACE) {
                String name = line.substring(line.indexOf(' ') + 1, line.indexOf('('));
                Check.same(type.getName() + "." + method.getName() + " bears a public name", false,
                        hidden && method.getName().equals(name));
            }
            Check.same(method.getName() + " has at most seven parameters", true, method.getParameterCount() <= 7);
        }
        Check.same(type.getName() + " has some twenty fields", true, countOwnFields(type) <= 20);
    }

    private static int countOwnFields(Class<?> type) {
        int count = 0;
        for (Field field : type.getDeclaredFields()) {
            count += Modifier.isStatic(field.getModifiers()) ? 0 : 1;
        }
        return count;
    }

    private static void theSourceKeepsToTheRules() throws Exception {
        List<String> lines = Files.readAllLines(Path.of("src/main/java/Trimwinder.java"), StandardCharsets.ISO_8859_1);
        String[] never = {"->", "::", "catch", "finally", "synchronized", "assert", "Exact(", "instanceof",
            "System.", "Thread", "Random", "hashCode", "equals(", "toString", "while"};
        int sinceMethod = 0;
        for (String line : lines) {
            String code = line.trim();
            if (code.startsWith("import ")) {
                Check.same("the import", "import java.util.NoSuchElementException;", code);
            }
            Check.same("only plain signs in: " + code, true, code.chars().allMatch(c -> c >= 32 && c < 127));
            if (code.startsWith("/**") || code.startsWith("*")) {
                continue;
            }
            for (String word : never) {
                Check.same(word + " in: " + code, false, code.contains(word));
            }
            sinceMethod = line.equals("    }") || line.equals("        }") ? 0 : sinceMethod + 1;
            Check.same("the method is short at: " + code, true, sinceMethod <= 60);
        }
    }
}
