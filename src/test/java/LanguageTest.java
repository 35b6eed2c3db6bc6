import java.io.IOException;
import java.nio.file.Files;
import java.nio.file.Path;
import java.util.Set;
import java.util.regex.Matcher;
import java.util.regex.Pattern;

/** The rules of LANGUAGE.md that can be seen in the program's text; FaceTest has those that the class itself shows. */
public final class LanguageTest {
    private static final Path PROGRAM = Path.of("src/main/java/ReinsuranceDesk.java");
    private static final Set<String> LIBRARY = Set.of("Arrays.fill", "Math.max", "Math.min");
    private static final int MOST_LINES = 60;
    private static final int MOST_PARAMETERS = 7;

    private LanguageTest() {
    }

    public static void main(String[] args) throws IOException {
        String whole = Files.readString(PROGRAM);
        String code = withoutComments(whole);
        texts(whole);
        words(withoutTexts(code));
        library(withoutTexts(code));
        exceptions(code);
        objects(code);
        methods(withoutTexts(code));
        Check.end();
    }

    private static String withoutComments(String text) {
        return text.replaceAll("(?s)/\\*.*?\\*/", "").replaceAll("//.*", "");
    }

    private static String withoutTexts(String text) {
        return text.replaceAll("\"[^\"]*\"", "\"\"");
    }

    private static void absent(String rule, String text, String pattern) {
        Matcher found = Pattern.compile(pattern).matcher(text);
        Check.same(rule, "nothing", found.find() ? found.group() : "nothing");
    }

    private static void texts(String whole) {
        Check.holds("rule 3: characters 0 to 255", whole.chars().allMatch(c -> c <= 255));
    }

    private static void words(String code) {
        absent("one file without a package line", code, "\\bpackage\\b");
        absent("rule 2: no lambda", code, "->");
        absent("rule 2: no method reference", code, "::");
        absent("rule 4: no Exact", code, "\\w+Exact\\b");
        absent("rule 5: no static block", code, "\\bstatic\\s*\\{");
        absent("rule 6: words that are not in use", code,
            "\\b(try|catch|finally|synchronized|assert|equals|hashCode|toString|getMessage)\\b");
        absent("rule 10: texts are not joined by +", code, "\"\\s*\\+|\\+\\s*\"");
        absent("rule 13: no clock, randomness, file, thread", code,
            "\\b(System|Random|Thread|Runtime|Process|File)\\b");
    }

    private static void library(String code) {
        Matcher imports = Pattern.compile("(?m)^import (.*);").matcher(code);
        while (imports.find()) {
            Check.same("rule 4: an import", "java.util.Arrays", imports.group(1));
        }
        Matcher calls = Pattern.compile("\\b[A-Z]\\w*\\.[a-z]\\w*(?=\\()").matcher(code);
        while (calls.find()) {
            Check.holds("rule 4: " + calls.group(), LIBRARY.contains(calls.group()));
        }
    }

    private static void exceptions(String code) {
        Matcher thrown = Pattern.compile("\\bthrow\\b(?!s)[^;]*;").matcher(code);
        int many = 0;
        while (thrown.find()) {
            many++;
            Check.holds("rule 6: " + thrown.group(),
                thrown.group().matches("throw new Illegal(Argument|State)Exception\\(\"[^\"]*\"\\);"));
        }
        Check.holds("rule 6: there are throws", many > 0);
    }

    /** The document's own words: all memory is rows made once, so only fields are given something new. */
    private static void objects(String code) {
        Matcher made = Pattern.compile("(?m)^.*\\bnew\\b.*$").matcher(code);
        while (made.find()) {
            String line = made.group().strip();
            Check.holds("rows made once: " + line, line.startsWith("throw ") || isInConstructor(code, made.start()));
        }
    }

    private static boolean isInConstructor(String code, int at) {
        Matcher heads = head().matcher(code);
        String last = "";
        while (heads.find() && heads.start() < at) {
            last = heads.group(1);
        }
        return !last.isEmpty() && Character.isUpperCase(last.charAt(0));
    }

    /** The head of a method or constructor: its name, then its parameters (if and for have a space before theirs). */
    private static Pattern head() {
        return Pattern.compile("(?m)^ +(?:\\w+(?:\\[\\])? )*(\\w+)\\(([^()]*)\\)[^;{}=]*\\{$");
    }

    private static void methods(String code) {
        Matcher heads = head().matcher(code);
        int many = 0;
        while (heads.find()) {
            many++;
            String name = heads.group(1);
            Check.holds("rule 11: parameters of " + name, heads.group(2).split(",").length <= MOST_PARAMETERS);
            Check.holds("rule 11: lines of " + name, linesOf(code, heads.end()) <= MOST_LINES);
        }
        Check.holds("rule 11: the methods are found: " + many, many > 50);
    }

    private static int linesOf(String code, int behindBrace) {
        int open = 1;
        int lines = 1;
        for (int at = behindBrace; at < code.length() && open > 0; at++) {
            switch (code.charAt(at)) {
                case '{': open++; break;
                case '}': open--; break;
                case '\n': lines++; break;
                default: break;
            }
        }
        return lines;
    }
}
