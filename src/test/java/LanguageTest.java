import java.io.IOException;
import java.lang.reflect.Constructor;
import java.lang.reflect.Field;
import java.lang.reflect.Method;
import java.lang.reflect.Modifier;
import java.nio.charset.StandardCharsets;
import java.nio.file.Files;
import java.nio.file.Path;
import java.util.Set;
import java.util.TreeSet;
import java.util.regex.Matcher;
import java.util.regex.Pattern;

/** Rules of LANGUAGE.md that can be seen in the source, or asked of the class. Run from the project's folder. */
public final class LanguageTest {
    private static final String FACE = "feed(5) end(1) court(0) fault(1) motif(2) joins(2) clash(2) behind(1) ahead(1) "
        + "comes(1) chain(2) say(1) hush(0) unsay(0) anew(0) told(1) length(0) whose(0) may(0) why(1) owed(0) due(1) "
        + "whole(0) points(0) share(1) left(1) longest(0) full(0) line(1) best(0) tale(1) roof(1) beam(2) rows(1) "
        + "wholes(0) ends(1) always(1) wins(0) move(0) lasts(0) good(0) kept(2) trade(0) keeps(2) forbid(2) around(1) "
        + "blunder(0) lack(1) crux(0) cost(1) judge(1) verdict(1) lies(1) orders(1) fits(1) liars(1) who(1) votes(2) "
        + "taste(2) drawn(2) lot(2) nights(2) count(1) keep(1) back(1) row(3) write(3) paste(5)";

    public static void main(String[] args) throws IOException {
        face();
        source();
        Check.finish();
    }

    private static void face() {
        Set<String> due = new TreeSet<>(Set.of(FACE.split(" ")));
        Set<String> open = new TreeSet<>();
        Set<String> names = new TreeSet<>();
        for (Method method : TaleCourt.class.getDeclaredMethods()) {
            if (!Modifier.isPrivate(method.getModifiers())) {
                open.add(method.getName() + "(" + method.getParameterCount() + ")");
                names.add(method.getName());
                Check.due(method + " is public", Modifier.isPublic(method.getModifiers()) ? 1 : 0, 1);
                Check.due(method + " answers an int", method.getReturnType() == int.class ? 1 : 0, 1);
            }
        }
        Check.due("the face is " + open, open.equals(due) ? 1 : 0, 1);
        Check.due("promises without the new object", names.size(), 68);
        for (Field field : TaleCourt.class.getDeclaredFields()) {
            boolean isFace = field.getName().equals("NONE");
            Check.due(field + " is hidden", isFace || Modifier.isPrivate(field.getModifiers()) ? 1 : 0, 1);
        }
        for (Constructor<?> constructor : TaleCourt.class.getDeclaredConstructors()) {
            Check.due(constructor + " is the face's", constructor.getParameterCount(), 0);
        }
        for (Class<?> inside : TaleCourt.class.getDeclaredClasses()) {
            Check.due(inside + " is static", Modifier.isStatic(inside.getModifiers()) ? 1 : 0, 1);
            for (Method method : inside.getDeclaredMethods()) {
                Check.due(method + " has a name of its own", names.contains(method.getName()) ? 1 : 0, 0);
                Check.due(method + " takes seven at the most", method.getParameterCount() > 7 ? 1 : 0, 0);
            }
            int fields = 0;
            for (Field field : inside.getDeclaredFields()) {
                fields += Modifier.isStatic(field.getModifiers()) ? 0 : 1;
            }
            Check.due(inside + " has some twenty fields", fields > 20 ? 1 : 0, 0);
        }
        Check.due("some twelve classes", TaleCourt.class.getDeclaredClasses().length > 11 ? 1 : 0, 0);
    }

    private static void source() throws IOException {
        String text = Files.readString(Path.of("src/main/java/TaleCourt.java"), StandardCharsets.US_ASCII);
        text = text.replaceAll("(?s)/\\*.*?\\*/", "").replaceAll("//[^\n]*", "");
        for (String word : "throw try catch synchronized assert package lambda while do native volatile".split(" ")) {
            Check.due("uses of " + word, uses(text, "\\b" + word + "\\b"), 0);
        }
        Check.due("arrows", uses(text, "->|::"), 0);
        Check.due("imports but for Arrays", uses(text, "(?m)^import (?!java\\.util\\.Arrays;)"), 0);
        Check.due("calls of the library that are not listed",
            uses(text, "\\b(Arrays|System|Math|Integer|Long)\\.(?!fill|arraycopy|min|max|bitCount)"), 0);
        int start = 0;
        String[] lines = text.split("\n");
        for (int i = 0; i < lines.length; i++) {
            if (lines[i].matches(" {4,8}[a-zA-Z].*\\{")) {
                start = i;
            }
            if (lines[i].matches(" {4,8}}") && !lines[start].contains("class ")) {
                Check.due(lines[start] + " is short", i - start > 60 ? 1 : 0, 0);
            }
        }
    }

    private static int uses(String text, String pattern) {
        int uses = 0;
        Matcher matcher = Pattern.compile(pattern).matcher(text);
        while (matcher.find()) {
            uses++;
        }
        return uses;
    }
}
