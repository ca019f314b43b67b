import java.io.IOException;
import java.nio.file.Files;
import java.nio.file.Path;
import java.util.List;
import java.util.regex.Pattern;

/** What of ../shared/LANGUAGE.md can be seen in the program's text. */
public final class LanguageTest {
    private static final List<String> FORBIDDEN = List.of(
            "->", "::", "\\bassert\\b", "\\bsynchronized\\b", "\\btry\\b", "\\bcatch\\b", "\\bfinally\\b", "\\brecord\\b",
            "\\bnative\\b", "\\bvolatile\\b", "\\bprotected\\b", "\\bvar\\b", "\\bObject\\b", "\\bSystem\\.(?!arraycopy)",
            "\\bstatic\\s*\\{", "\\.\\.\\.", "\\bhashCode\\b", "\\btoString\\b", "\\bMath\\.\\w+Exact\\b", "@",
            "\\b(Integer|Long)\\.[A-Z_]+\\b",
            "\\bfloat\\b", "\\bdouble\\b", "\\bpackage\\b", "[^\\x00-\\x7e]");
    private static final List<String> EXCEPTIONS = List.of(
            "IllegalStateException", "IllegalArgumentException", "IndexOutOfBoundsException");

    private LanguageTest() {
    }

    public static void main(String[] arguments) throws IOException {
        String source = Files.readString(Path.of("src/main/java/LayoutPress.java"));
        String code = source.replaceAll("/\\*(?s:.*?)\\*/", "").replaceAll("//.*", "").replaceAll("\"[^\"\n]*\"", "\"\"");
        for (String forbidden : FORBIDDEN) {
            Check.that("without " + forbidden, !Pattern.compile(forbidden).matcher(code).find());
        }
        checkImports(code);
        checkThrows(code);
        checkStatics(code);
        checkMethods(code.split("\n"));
        checkClasses(code);
        Check.end();
    }

    private static void checkImports(String code) {
        for (String line : code.split("\n")) {
            if (line.startsWith("import")) {
                Check.sameText("import", line, "import java.util.Arrays;");
            }
        }
    }

    private static void checkThrows(String code) {
        for (String line : code.split("\n")) {
            if (line.strip().startsWith("throw ")) {
                String name = line.strip().replaceAll("throw new (\\w+)\\(\"\"\\);", "$1");
                Check.that("a throw as is due: " + line.strip(), EXCEPTIONS.contains(name));
            }
        }
    }

    private static void checkStatics(String code) {
        for (String line : code.split("\n")) {
            boolean isField = line.matches("\\s+(public |private )?static .*[=;].*") && !line.contains("(");
            if (isField) {
                Check.that("a constant: " + line.strip(),
                        line.matches("\\s+(public|private) static final (int|long|boolean|char|String) [A-Z_]+ = .*;"));
            }
        }
    }

    // A method begins with a line that ends with "{" and has a "(", four or eight blanks in.
    private static void checkMethods(String[] lines) {
        int begin = -1;
        int indentation = 0;
        for (int i = 0; i < lines.length; i++) {
            String line = lines[i];
            int blanks = line.length() - line.stripLeading().length();
            boolean isHead = line.endsWith("{") && line.contains("(") && (blanks == 4 || blanks == 8)
                    && line.strip().matches("(public |private |static |final )*[\\w\\[\\]]+( \\w+)?\\(.*");
            if (begin < 0 && isHead && !line.strip().matches("(if|for|while|switch).*")) {
                begin = i;
                indentation = blanks;
                String parameters = line.replaceAll(".*\\((.*)\\).*", "$1");
                Check.that("at most seven parameters: " + line.strip(), parameters.split(",").length <= 7);
            }
            if (begin >= 0 && blanks == indentation && line.strip().equals("}")) {
                Check.that("a short method: " + lines[begin].strip(), i - begin < 60);
                begin = -1;
            }
        }
    }

    private static void checkClasses(String code) {
        int classes = code.split("\\b(class|enum|interface) [A-Z]").length - 1;
        Check.that("few classes: " + classes, classes <= 12);
        for (String line : code.split("\n")) {
            if (line.matches("    .*\\b(class|enum|interface) [A-Z].*")) {
                Check.that("a class inside is private: " + line.strip(), line.strip().startsWith("private "));
            }
        }
    }
}
