import java.io.IOException;
import java.lang.reflect.Field;
import java.lang.reflect.Method;
import java.lang.reflect.Modifier;
import java.nio.charset.StandardCharsets;
import java.nio.file.Files;
import java.nio.file.Path;
import java.util.Arrays;
import java.util.Set;
import java.util.TreeSet;
import java.util.regex.Matcher;
import java.util.regex.Pattern;

/** The rules of LANGUAGE.md that a look at the source and at the face can hold; run from the project's folder. */
public final class LanguageTest {
    private static final Path SOURCE = Path.of("src/main/java/PaperBoys.java");
    private static final String[] FACE = {"feed", "end", "boy", "badge", "owner", "weather", "sky", "headline", "table",
        "want", "asked", "minutes", "terms", "fault", "bundle", "told", "why", "close", "of", "coin", "counted",
        "falseCounts", "shortOf", "best", "expected", "tried", "triedEaten", "parted", "partedAt", "peace", "truck",
        "truckAt", "strike", "struck", "count"};
    private static final String[] NOT_ALLOWED = {"->", "::", "\\bcatch\\b", "\\bfinally\\b", "\\bsynchronized\\b",
        "\\bassert\\b", "Exact\\(", "\\bnull\\b.*==.*\\bnull\\b", "\\bpackage\\b", "\\bString\\[", "\\bthrow new (?!NoSuch)",
        "\\bstatic \\{", "\\bSystem\\.(?!arraycopy)", "\\bMath\\.(?!min|max)", "\" \\+", "\\+ \""};

    private LanguageTest() {
    }

    public static void main(String[] args) throws IOException {
        String source = Files.readString(SOURCE, StandardCharsets.ISO_8859_1);
        String code = source.replaceAll("(?s)/\\*.*?\\*/", "").replaceAll("//[^\n]*", "");
        for (String pattern : NOT_ALLOWED) {
            Check.no("the source has " + pattern, Pattern.compile(pattern).matcher(code).find());
        }
        imports(code);
        methodsStayShort(source);
        face();
        nestedClasses();
        Check.end();
    }

    private static void imports(String code) {
        Matcher m = Pattern.compile("import ([^;]+);").matcher(code);
        while (m.find()) {
            Check.yes("import of " + m.group(1),
                    Set.of("java.util.ArrayList", "java.util.NoSuchElementException").contains(m.group(1)));
        }
    }

    /** A method begins with a line that opens a brace at four or eight blanks, and ends at the like closing one. */
    private static void methodsStayShort(String source) {
        String[] lines = source.split("\n");
        for (int i = 0; i < lines.length; i++) {
            String indent = lines[i].replaceAll("\\S.*", "");
            if (lines[i].endsWith(") {") && (indent.length() == 4 || indent.length() == 8)
                    && !lines[i].trim().startsWith("if") && !lines[i].trim().startsWith("for")) {
                int end = i;
                while (end < lines.length && !lines[end].equals(indent + "}")) {
                    end++;
                }
                Check.yes("sixty lines at most: " + lines[i].trim(), end - i <= 60);
            }
        }
    }

    private static void face() {
        Set<String> due = new TreeSet<>(Arrays.asList(FACE));
        Set<String> seen = new TreeSet<>();
        for (Method m : PaperBoys.class.getDeclaredMethods()) {
            if (Modifier.isPublic(m.getModifiers())) {
                seen.add(m.getName());
            } else {
                Check.yes("private: " + m.getName(), Modifier.isPrivate(m.getModifiers()));
                Check.no("a name of the face: " + m.getName(), due.contains(m.getName()));
            }
            Check.yes("seven parameters at most: " + m.getName(), m.getParameterCount() <= 7);
        }
        Check.yes("the face is " + seen, seen.equals(due));
        int fields = 0;
        for (Field f : PaperBoys.class.getDeclaredFields()) {
            boolean isStatic = Modifier.isStatic(f.getModifiers());
            fields += isStatic ? 0 : 1;
            Check.yes("private: " + f.getName(), Modifier.isPrivate(f.getModifiers()) || f.getName().equals("NONE"));
            Check.yes("final: " + f.getName(), !isStatic || Modifier.isFinal(f.getModifiers()));
        }
        Check.yes("some twenty fields", fields <= 20);
        Check.yes("final", Modifier.isFinal(PaperBoys.class.getModifiers()));
        Check.same("constructors", PaperBoys.class.getDeclaredConstructors().length, 1);
    }

    private static void nestedClasses() {
        Set<String> face = new TreeSet<>(Arrays.asList(FACE));
        Class<?>[] nested = PaperBoys.class.getDeclaredClasses();
        Check.yes("twelve classes at most", nested.length + 1 <= 12);
        for (Class<?> c : nested) {
            Check.yes("static: " + c, Modifier.isStatic(c.getModifiers()));
            for (Method m : c.getDeclaredMethods()) {
                Check.no("a name of the face: " + m.getName(), face.contains(m.getName()));
                Check.yes("seven parameters at most: " + m.getName(), m.getParameterCount() <= 7);
            }
            for (Field f : c.getDeclaredFields()) {
                int mods = f.getModifiers();
                Check.yes("static is final: " + f.getName(), !Modifier.isStatic(mods) || Modifier.isFinal(mods));
            }
        }
    }
}
