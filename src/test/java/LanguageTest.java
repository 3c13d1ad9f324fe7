import java.io.IOException;
import java.lang.reflect.Constructor;
import java.lang.reflect.Field;
import java.lang.reflect.Method;
import java.lang.reflect.Modifier;
import java.nio.file.Files;
import java.nio.file.Path;
import java.util.List;
import java.util.Set;
import java.util.TreeSet;
import java.util.regex.Matcher;
import java.util.regex.Pattern;

/** Those rules of LANGUAGE.md that a look at the source and at the compiled face can hold. */
public final class LanguageTest {
    private static final Checks C = new Checks();

    public static void main(String[] args) throws IOException {
        String source = Files.readString(Path.of("src/main/java/CardHolder.java"));
        String code = source.replaceAll("(?s)/\\*.*?\\*/", "").replaceAll("//[^\n]*", "").replaceAll("\"[^\"\n]*\"", "\"\"");
        words(code);
        library(code);
        face();
        sizes(code);
        C.close("LanguageTest");
    }

    private static void words(String code) {
        for (String word : List.of("throw", "throws", "try", "catch", "finally", "synchronized", "assert", "import", "package",
                "hashCode", "toString", "protected", "Object", "volatile", "transient", "native")) {
            C.due("the word " + word, found(code, "\\b" + word + "\\b"), 0);
        }
        C.due("lambdas", found(code, "->"), 0);
        C.due("method references", found(code, "::"), 0);
        C.due("a joined text", found(code, "\"\\s*\\+|\\+\\s*\""), 0);
        C.due("static initialisers", found(code, "static\\s*\\{"), 0);
        C.due("static fields that are not final", found(code, "static (?!final)[A-Za-z\\[\\]]+ [A-Za-z]+( =|;)"), 0);
        C.due("signs above 127", found(code, "[^\\x00-\\x7f]"), 0);
    }

    private static void library(String code) {
        Set<String> allowed = Set.of("System.arraycopy", "Integer.bitCount", "Math.min", "Math.max");
        Matcher m = Pattern.compile("\\b(System|Integer|Long|Math|String|Arrays|Character)\\.[A-Za-z]+").matcher(code);
        while (m.find()) {
            C.due("the library's " + m.group(), allowed.contains(m.group()) ? 0 : 1, 0);
        }
    }

    private static void face() {
        Class<?> face = CardHolder.class;
        C.due("final", Modifier.isFinal(face.getModifiers()) ? 1 : 0, 1);
        Set<String> open = new TreeSet<>();
        for (Method m : face.getDeclaredMethods()) {
            boolean isPublic = Modifier.isPublic(m.getModifiers());
            C.due(m.getName() + " is public or private", isPublic || Modifier.isPrivate(m.getModifiers()) ? 1 : 0, 1);
            if (isPublic) {
                C.due(m.getName() + " answers an int", m.getReturnType() == int.class ? 1 : 0, 1);
                open.add(m.getName());
            }
        }
        C.due("public methods", open.size(), 65);
        for (Field f : face.getDeclaredFields()) {
            boolean isPublic = Modifier.isPublic(f.getModifiers());
            C.due(f.getName() + " is private", isPublic || !Modifier.isPrivate(f.getModifiers()) ? 1 : 0,
                f.getName().equals("NONE") ? 1 : 0);
        }
        C.due("constructors", face.getDeclaredConstructors().length, 1);
        for (Constructor<?> c : face.getDeclaredConstructors()) {
            C.due("its parameters", c.getParameterCount(), 0);
        }
        C.due("classes", face.getDeclaredClasses().length <= 12 ? 1 : 0, 1);
        for (Class<?> inside : face.getDeclaredClasses()) {
            C.due(inside.getName() + " is static", Modifier.isStatic(inside.getModifiers()) ? 1 : 0, 1);
            for (Method m : inside.getDeclaredMethods()) {
                C.due("a public name inside: " + m.getName(), open.contains(m.getName()) ? 1 : 0, 0);
                C.due("parameters of " + m.getName(), m.getParameterCount() <= 7 ? 1 : 0, 1);
            }
        }
    }

    private static void sizes(String code) {
        int start = -1;
        String[] lines = code.split("\n", -1);
        for (int i = 0; i < lines.length; i++) {
            if (lines[i].matches(" {4}(?: {4})?[A-Za-z].*\\) \\{")) {
                start = i;
            } else if (start >= 0 && lines[i].matches(" {4}(?: {4})?\\}")) {
                C.due("lines of a method at " + (start + 1), i - start < 60 ? 1 : 0, 1);
                start = -1;
            }
        }
    }

    private static int found(String code, String pattern) {
        Matcher m = Pattern.compile(pattern).matcher(code);
        int sum = 0;
        while (m.find()) {
            sum++;
        }
        return sum;
    }
}
