import java.io.IOException;
import java.lang.reflect.Field;
import java.lang.reflect.Modifier;
import java.nio.charset.StandardCharsets;
import java.nio.file.Files;
import java.nio.file.Path;
import java.util.Set;
import java.util.TreeSet;

/** The class has the face of the document's code block, and no other. Run from the project's folder. */
public final class FaceTest {
    private static final String OPEN = "public ";

    public static void main(String[] args) throws IOException, ReflectiveOperationException {
        String document = Files.readString(Path.of("../shared/DOC.md"), StandardCharsets.UTF_8);
        int start = document.indexOf("```java\n");
        Set<String> due = face(document.substring(start, document.indexOf("\n```", start)));
        Set<String> own = face(Files.readString(Path.of("src/main/java/TaleCourt.java"), StandardCharsets.US_ASCII));
        Check.due("the class's line, a constant, a constructor and the methods", due.size(), 1 + 1 + 1 + 68);
        for (String line : due) {
            Check.due("the class has " + line, own.contains(line) ? 1 : 0, 1);
        }
        for (String line : own) {
            Check.due("the document has " + line, due.contains(line) ? 1 : 0, 1);
        }
        promised(document, due);
        shape();
        Check.finish();
    }

    /** The lines of a text that are open to all, without what ends or opens them. */
    private static Set<String> face(String text) {
        Set<String> lines = new TreeSet<>();
        for (String line : text.split("\n")) {
            String bare = line.trim();
            if (bare.startsWith(OPEN)) {
                lines.add(bare.replaceAll(" *[;{]$", ""));
            }
        }
        return lines;
    }

    /** Each promise's heading line has the words of the face. */
    private static void promised(String document, Set<String> face) {
        int promises = 0;
        for (String line : document.split("\n")) {
            if (line.startsWith("`") && line.contains("`: ")) {
                promises++;
                String words = line.substring(1, line.indexOf("`: "));
                Check.due("the face has " + words, face.contains(OPEN + words) ? 1 : 0, 1);
            }
        }
        Check.due("promises", promises, 69);
    }

    private static void shape() throws ReflectiveOperationException {
        int shape = TaleCourt.class.getModifiers();
        Check.due("public and final", Modifier.isPublic(shape) && Modifier.isFinal(shape) ? 1 : 0, 1);
        Check.due("no package", TaleCourt.class.getPackageName().length(), 0);
        Field none = TaleCourt.class.getField("NONE");
        Check.due("NONE is an int", none.getType() == int.class ? 1 : 0, 1);
        Check.due("NONE", none.getInt(null), -1);
        Check.due("constants", TaleCourt.class.getFields().length, 1);
        Check.due("constructors", TaleCourt.class.getConstructors().length, 1);
    }
}
