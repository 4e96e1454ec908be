import java.io.IOException;
import java.lang.reflect.Method;
import java.lang.reflect.Modifier;
import java.nio.charset.StandardCharsets;
import java.nio.file.Files;
import java.nio.file.Path;
import java.util.regex.Matcher;
import java.util.regex.Pattern;

/** The court and the answers that README.md shows are so, and it names every call. Run from the project's folder. */
public final class ReadmeTest {
    public static void main(String[] args) throws IOException, ReflectiveOperationException {
        String page = Files.readString(Path.of("README.md"), StandardCharsets.UTF_8);
        answers(page);
        names(page);
        Check.finish();
    }

    private static void answers(String page) throws ReflectiveOperationException {
        TaleCourt x = Check.of(block(page, "text"));
        Pattern row = Pattern.compile("x\\.(\\w+)\\(([^)]*)\\) +(-?\\d+)( .*)?");
        for (String line : block(page, "answers").split("\n")) {
            Matcher matcher = row.matcher(line);
            boolean isCall = matcher.matches();
            Check.due("a call with its answer: " + line, isCall ? 1 : 0, 1);
            if (isCall) {
                Check.due(line, answer(x, matcher.group(1), matcher.group(2)), Long.parseLong(matcher.group(3)));
            }
        }
    }

    private static String block(String page, String kind) {
        String head = "```" + kind + "\n";
        int start = page.indexOf(head);
        Check.due("README.md has a block of " + kind, start < 0 ? 0 : 1, 1);
        return start < 0 ? "" : page.substring(start + head.length(), page.indexOf("\n```", start) + 1);
    }

    private static int answer(TaleCourt x, String name, String words) throws ReflectiveOperationException {
        String[] parts = words.isEmpty() ? new String[0] : words.split(", *");
        for (Method method : TaleCourt.class.getMethods()) {
            if (method.getName().equals(name) && method.getParameterCount() == parts.length) {
                Object[] values = new Object[parts.length];
                for (int i = 0; i < parts.length; i++) {
                    boolean isLong = method.getParameterTypes()[i] == long.class;
                    values[i] = isLong ? (Object) Long.valueOf(parts[i]) : (Object) Integer.valueOf(parts[i]);
                }
                return (Integer) method.invoke(x, values);
            }
        }
        Check.due("there is a call " + name, 0, 1);
        return Integer.MIN_VALUE;
    }

    private static void names(String page) {
        for (Method method : TaleCourt.class.getDeclaredMethods()) {
            if (Modifier.isPublic(method.getModifiers())) {
                Check.due("README.md names " + method, page.contains("`" + method.getName() + "`") ? 1 : 0, 1);
            }
        }
    }
}
