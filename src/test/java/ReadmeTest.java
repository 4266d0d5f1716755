import java.io.IOException;
import java.lang.reflect.InvocationTargetException;
import java.lang.reflect.Method;
import java.lang.reflect.Modifier;
import java.nio.file.Files;
import java.nio.file.Path;
import java.util.regex.Matcher;
import java.util.regex.Pattern;

/** README.md: its example answers what it says, and it names each call of the face. */
final class ReadmeTest {
    private static final Pattern LINE = Pattern.compile("(?m)^x\\.(\\w+)\\(([^)]*)\\); +// (throws )?(\\S+)$");

    private ReadmeTest() {
    }

    public static void main(String[] args) {
        Check.runAll(ReadmeTest.class, "readme");
    }

    static void readmeExampleAnswersWhatItSays() throws IOException, IllegalAccessException {
        Walkwatch x = new Walkwatch();
        Matcher line = LINE.matcher(text());
        int lines = 0;
        while (line.find()) {
            lines++;
            Check.same(line.group() + ": " + answer(x, line.group(1), line.group(2)),
                    line.group() + ": " + line.group(4));
        }
        Check.same(lines > 9, true);
    }

    static void readmeNamesEachCall() throws IOException {
        String readme = text();
        for (Method m : Walkwatch.class.getDeclaredMethods()) {
            if (Modifier.isPublic(m.getModifiers())) {
                Check.same(readme.contains("`" + m.getName() + "`") ? "" : m.getName() + " is not named", "");
            }
        }
    }

    private static String answer(Walkwatch x, String name, String written) throws IllegalAccessException {
        String[] parts = written.split(", ");
        Object[] args = new Object[parts.length];
        for (int i = 0; i < parts.length; i++) {
            if (parts[i].startsWith("'")) {
                args[i] = parts[i].charAt(1);
            } else {
                args[i] = Integer.valueOf(parts[i]);
            }
        }
        for (Method m : Walkwatch.class.getDeclaredMethods()) {
            if (m.getName().equals(name) && Modifier.isPublic(m.getModifiers())) {
                try {
                    return String.valueOf(m.invoke(x, args));
                } catch (InvocationTargetException e) {
                    return e.getCause().getClass().getSimpleName();
                }
            }
        }
        return "no such call";
    }

    private static String text() throws IOException {
        return Files.readString(Path.of("README.md"));
    }
}
