import java.io.IOException;
import java.nio.file.Files;
import java.nio.file.Path;
import java.util.Set;
import java.util.TreeSet;
import java.util.regex.Matcher;
import java.util.regex.Pattern;

/** The rules of LANGUAGE.md that can be read off the source. It is run from the root of the project. */
public final class LanguageTest {
    private static final Path SOURCE = Path.of("src/main/java/CoolingPlanner.java");
    private static final String[] FORBIDDEN = {
        "\\bpackage\\b", "->", "::", "\\btry\\b", "\\bcatch\\b", "\\bfinally\\b", "\\bsynchronized\\b", "\\bassert\\b",
        "\\binstanceof\\b", "\\bvolatile\\b", "\\btransient\\b", "\\bnative\\b", "\\bprotected\\b", "\\bextends\\b",
        "\\bstatic\\s*\\{", "Exact\\b", "\\bSystem\\.(?!arraycopy\\b)", "\\bString\\.", "\\b(?:equals|hashCode|toString)\\b",
        "\\b(?:ordinal|valueOf|format|print\\w*|nanoTime|Random|Thread)\\b", "\"\\s*\\+", "\\+\\s*\"", "%", "\\brecord\\b",
        "@\\w+", "\\bstatic\\s+(?!final\\b)\\w+(?:\\[\\])?\\s+\\w+\\s*[=;]", "\\bstatic\\s+final\\s+(?:float|double)\\b",
        "\\bMath\\.(?!min\\b|max\\b|abs\\b|floorDiv\\b|floorMod\\b)",
    };

    public static void main(String[] args) throws IOException {
        String source = Files.readString(SOURCE);
        signs(source);
        String code = source.replaceAll("(?s)/\\*.*?\\*/", "").replaceAll("//[^\n]*", "");
        imports(code);
        code = code.replaceAll("\"(?:[^\"\\\\]|\\\\.)*\"", "\"\"").replaceAll("'(?:[^'\\\\]|\\\\.)'", "' '");
        for (String pattern : FORBIDDEN) {
            Matcher matcher = Pattern.compile(pattern).matcher(code);
            Check.same("what stands against " + pattern, "", matcher.find() ? matcher.group() : "");
        }
        exceptions(code);
        methods(source);
        Check.end();
    }

    private static void signs(String source) {
        for (char sign : source.toCharArray()) {
            if (sign < 1 || sign > 127) {
                Check.same("rule 4: a sign of the source", "1 to 127", (int) sign);
            }
        }
    }

    private static void imports(String code) {
        Set<String> found = new TreeSet<>();
        Matcher matcher = Pattern.compile("import ([^;]+);").matcher(code);
        while (matcher.find()) {
            found.add(matcher.group(1));
        }
        Check.same("rule 4: imports", Set.of("java.util.NoSuchElementException"), found);
    }

    private static void exceptions(String code) {
        Set<String> allowed = Set.of("IllegalStateException", "IllegalArgumentException", "IndexOutOfBoundsException",
                "ArithmeticException", "UnsupportedOperationException", "NoSuchElementException", "RuntimeException");
        Matcher matcher = Pattern.compile("\\bthrow\\b([^;]*);").matcher(code);
        while (matcher.find()) {
            Matcher made = Pattern.compile("new (\\w+)\\((?:\"\")?\\)").matcher(matcher.group(1).trim());
            Check.same("rule 6: throw" + matcher.group(1), true, made.matches() && allowed.contains(made.group(1)));
        }
    }

    /** Counts the lines between each method's first and last line by the indentation that the file keeps to. */
    private static void methods(String source) {
        String[] lines = source.split("\n");
        for (int i = 0; i < lines.length; i++) {
            Check.same("a line of at most 120 signs: " + (i + 1), true, lines[i].length() <= 120);
            Matcher head = Pattern.compile("( {4}| {8})\\S[^=]*\\(([^()]*)\\)[^()]*\\{").matcher(lines[i]);
            if (head.matches() && !lines[i].contains(" class ")) {
                int last = i;
                while (last < lines.length && !lines[last].equals(head.group(1) + "}")) {
                    last++;
                }
                Check.same("rule 11: short is " + lines[i], true, last - i < 60);
                Check.same("rule 11: parameters of " + lines[i], true, head.group(2).split(",").length <= 7);
            }
        }
    }
}
