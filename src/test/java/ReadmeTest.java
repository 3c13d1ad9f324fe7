import java.io.IOException;
import java.lang.reflect.Method;
import java.lang.reflect.Modifier;
import java.nio.file.Files;
import java.nio.file.Path;
import java.util.regex.Matcher;
import java.util.regex.Pattern;

/** README.md's run of calls, made call by call; its way to tell a city; and that it names every call. */
public final class ReadmeTest {
    private static final Checks C = new Checks();
    private static final Pattern NEW = Pattern.compile("CardHolder x = new CardHolder\\(\\);");
    private static final Pattern TELL = Pattern.compile("tell\\(x, \"([^\"]*)\"\\);\\s+// (-?\\d+).*");
    private static final Pattern CALL = Pattern.compile("x\\.(\\w+)\\(([-\\d, ]*)\\);\\s+// (-?\\d+).*");

    private static CardHolder x;

    public static void main(String[] args) throws IOException, ReflectiveOperationException {
        String page = Files.readString(Path.of("README.md"));
        String[] parts = page.split("```(?:java)?\n");
        C.due("two blocks of code", parts.length, 5);
        tellsAsHere(parts[1]);
        for (String line : parts[3].split("\n")) {
            make(line);
        }
        namesEveryCall(page);
        C.close("ReadmeTest");
    }

    static int tell(CardHolder x, String text) {
        x.end(0);
        for (int i = 0; i < text.length(); i += 20) {
            x.feed(four(text, i), four(text, i + 4), four(text, i + 8), four(text, i + 12), four(text, i + 16));
        }
        x.end(text.length());
        return x.city();
    }

    static int four(String text, int i) {
        int number = 0;
        for (int k = i; k < i + 4; k++) {
            number = number << 8 | (k < text.length() ? text.charAt(k) : ' ');
        }
        return number;
    }

    /** The page's two methods are the two above, to the letter. */
    private static void tellsAsHere(String block) throws IOException {
        String here = Files.readString(Path.of("src/test/java/ReadmeTest.java"));
        String indented = block.replaceAll("(?m)^(?=.)", "    ");
        C.due("tell and four are as they are here", here.contains(indented) ? 1 : 0, 1);
    }

    private static void make(String line) throws ReflectiveOperationException {
        Matcher told = TELL.matcher(line);
        Matcher called = CALL.matcher(line);
        if (NEW.matcher(line).matches()) {
            x = new CardHolder();
        } else if (told.matches()) {
            C.due(line, tell(x, told.group(1)), Integer.parseInt(told.group(2)));
        } else if (called.matches()) {
            C.due(line, call(called.group(1), called.group(2)), Integer.parseInt(called.group(3)));
        } else {
            C.due("can't be read: " + line, 0, 1);
        }
    }

    private static int call(String name, String given) throws ReflectiveOperationException {
        String[] texts = given.isEmpty() ? new String[0] : given.split(", ");
        for (Method m : CardHolder.class.getMethods()) {
            if (m.getName().equals(name) && m.getParameterCount() == texts.length) {
                Object[] args = new Object[texts.length];
                for (int i = 0; i < args.length; i++) {
                    boolean isLong = m.getParameterTypes()[i] == long.class;
                    args[i] = isLong ? (Object) Long.valueOf(texts[i]) : (Object) Integer.valueOf(texts[i]);
                }
                return (int) m.invoke(x, args);
            }
        }
        throw new IllegalStateException("no such call: " + name);
    }

    private static void namesEveryCall(String page) {
        for (Method m : CardHolder.class.getDeclaredMethods()) {
            if (Modifier.isPublic(m.getModifiers())) {
                C.due("the page names " + m.getName(), page.contains("`" + m.getName() + "`") ? 1 : 0, 1);
            }
        }
    }
}
