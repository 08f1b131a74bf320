import java.io.IOException;
import java.lang.reflect.Field;
import java.lang.reflect.Method;
import java.lang.reflect.Modifier;
import java.nio.file.Files;
import java.nio.file.Path;
import java.util.ArrayList;
import java.util.Arrays;
import java.util.List;
import java.util.Set;
import java.util.TreeSet;
import java.util.regex.Matcher;
import java.util.regex.Pattern;

/** The class keeps to ../shared/LANGUAGE.md, as far as its text and its parts tell. */
public final class LanguageTests {
    private static final Path SOURCE = Path.of("src/main/java/MatchPipe.java");
    private static final Pattern LIBRARY = Pattern.compile("\\b(Arrays|System|Integer|Long|Math|String|List)\\.\\w+");
    private static final Pattern LEFT_OUT = Pattern.compile("->|::|\\b(package|try|catch|finally|synchronized|assert"
        + "|instanceof|double|float|protected|hashCode|equals|toString)\\b");
    private static final Pattern THROW = Pattern.compile(
        "throw new (IllegalStateException|IllegalArgumentException|IndexOutOfBoundsException)\\(\"\"\\);");
    private static final Pattern MADE_LATER = Pattern.compile("(?<!throw )\\bnew \\w+");
    private static final Pattern HEAD = Pattern.compile("^ {4,8}[^ ].*\\{$");

    private static final int CLASSES = 12;
    private static final int FIELDS = 20;
    private static final int PARAMETERS = 7;
    private static final int LINES = 60;

    private LanguageTests() {
    }

    public static void main(String[] args) throws IOException {
        Check.begin("the language");
        List<String> code = code();
        words(code);
        library(code);
        exceptions(code);
        lengths(code);
        parts();
        Check.close("LanguageTests");
    }

    /** The lines without comments and without what stands in texts, each method's head in one line. */
    private static List<String> code() throws IOException {
        String text = Files.readString(SOURCE);
        text = text.replaceAll("(?s)/\\*.*?\\*/", "").replaceAll("//[^\n]*", "").replaceAll("\"[^\"\n]*\"", "\"\"");
        return Arrays.asList(text.replaceAll("\n +throws", " throws").split("\n"));
    }

    private static Set<String> found(Pattern pattern, List<String> code) {
        Set<String> found = new TreeSet<>();
        for (String line : code) {
            Matcher matcher = pattern.matcher(line);
            while (matcher.find()) {
                found.add(matcher.group());
            }
        }
        return found;
    }

    private static void words(List<String> code) {
        Check.same("what the language leaves out", Set.of(), found(LEFT_OUT, code));
    }

    private static void library(List<String> code) {
        Check.same("what is imported", Set.of("import java.util.Arrays;"), found(Pattern.compile("^import.*"), code));
        Check.same("what is used of the library", Set.of("Arrays.fill", "Integer.bitCount", "System.arraycopy"),
            found(LIBRARY, code));
    }

    private static void exceptions(List<String> code) {
        for (String line : code) {
            Check.same(line.trim() + " is a throw as it should be", line.contains("throw "), THROW.matcher(line).find());
        }
    }

    /** A method's head and its last brace stand equally far in, and nothing between them does. */
    private static void lengths(List<String> code) {
        List<String> made = new ArrayList<>();
        for (int i = 0; i < code.size(); i++) {
            String line = code.get(i);
            if (!HEAD.matcher(line).find() || line.contains("class ")) {
                continue;
            }
            int end = i;
            String brace = line.substring(0, line.length() - line.stripLeading().length()) + "}";
            while (end < code.size() && !code.get(end).equals(brace)) {
                end++;
            }
            Check.same(line.trim() + " is short", true, end - i < LINES);
            made.addAll(objectsMade(line, code.subList(i, end)));
        }
        Check.same("objects made by calls", List.of(), made);
    }

    private static List<String> objectsMade(String head, List<String> lines) {
        boolean constructor = head.trim().matches("(public )?[A-Z]\\w*\\(.*");
        List<String> made = new ArrayList<>();
        for (String line : lines) {
            if (!constructor && MADE_LATER.matcher(line).find()) {
                made.add(line.trim());
            }
        }
        return made;
    }

    private static void parts() {
        List<Class<?>> classes = new ArrayList<>(Arrays.asList(MatchPipe.class.getDeclaredClasses()));
        classes.add(MatchPipe.class);
        Check.same("few classes", true, classes.size() <= CLASSES);
        for (Class<?> one : classes) {
            Check.same(one + " is static", true, one == MatchPipe.class || Modifier.isStatic(one.getModifiers()));
            int held = 0;
            for (Field f : one.getDeclaredFields()) {
                boolean ofClass = Modifier.isStatic(f.getModifiers());
                held += ofClass ? 0 : 1;
                Check.same(f + ", if static, is a constant", true,
                    !ofClass || Modifier.isFinal(f.getModifiers()) && f.getType().isPrimitive());
            }
            Check.same(one + " has few fields", true, held <= FIELDS);
            for (Method m : one.getDeclaredMethods()) {
                Check.same(m + " takes few parameters", true, m.getParameterCount() <= PARAMETERS);
            }
        }
    }
}
