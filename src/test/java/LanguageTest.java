import java.nio.charset.StandardCharsets;
import java.nio.file.Files;
import java.nio.file.Path;
import java.util.regex.Matcher;
import java.util.regex.Pattern;

/** The rules of LANGUAGE.md that can be seen in the text of the program alone. */
final class LanguageTest {
    private static final int MOST_LINES = 60;
    private static final int MOST_CLASSES = 12;
    private static final int MOST_PARAMETERS = 7;
    private static final String METHOD_BEGIN = " {4}( {4})?(public |private |static |final )*[\\w\\[\\]]+( \\w+)?\\(.*[^;]";

    /** A rule's number, and words that may not stand in the program because of it. */
    private static final String[][] RULED_OUT = {
        {"1", "^package "},
        {"2", "->"}, {"2", "::"},
        {"4", "\\bSystem\\.(?!arraycopy)"}, {"4", "Exact\\("}, {"4", "String\\.(format|valueOf)"},
        {"4", "^import (?!java\\.util\\.(ArrayList|List|Arrays|Iterator|NoSuchElementException);)"},
        {"5", "\\bstatic (?!final |class |int |long |boolean |double |void |char )"}, {"5", "\\bstatic \\{"},
        {"6", "\\b(try|catch|finally|synchronized|assert)\\b"}, {"6", "extends \\w*Exception"},
        {"6", "\\b(equals|hashCode|toString)\\("},
        {"6", "\\bthrow (?!new \\w+\\((\"[^\"]*\")?\\);)"},
        {"13", "\\b(Thread|Random|Math\\.random|nanoTime|currentTimeMillis|File|Runtime)\\b"},
    };

    public static void main(String[] args) throws Exception {
        Path root = Path.of(args.length > 0 ? args[0] : ".");
        Path file = root.resolve("src/main/java/Countcote.java");
        String source = Files.readString(file, StandardCharsets.ISO_8859_1);
        String code = withoutComments(source);
        for (String[] rule : RULED_OUT) {
            Matcher found = Pattern.compile(rule[1], Pattern.MULTILINE).matcher(code);
            Check.same("rule " + rule[0], "nothing", found.find() ? found.group() : "nothing");
        }
        checkSigns(source);
        checkSizes(code);
        Check.end("LanguageTest");
    }

    private static String withoutComments(String source) {
        return source.replaceAll("(?s)/\\*.*?\\*/", "").replaceAll("//[^\n]*", "");
    }

    private static void checkSigns(String source) {
        for (int i = 0; i < source.length(); i++) {
            char sign = source.charAt(i);
            if (sign > 126 || sign < 32 && sign != '\n') {
                Check.same("the sign at " + i, "a plain one", "number " + (int) sign);
            }
        }
    }

    private static void checkSizes(String code) {
        int classes = 0;
        int begin = -1;
        String[] lines = code.split("\n");
        for (int i = 0; i < lines.length; i++) {
            if (lines[i].matches(".*\\b(class|record|enum|interface) \\w+ .*\\{")) {
                classes++;
            } else if (lines[i].matches(METHOD_BEGIN)) {
                begin = i;
                Check.holds("the parameters in " + lines[i], lines[i].split(",").length <= MOST_PARAMETERS);
            } else if (begin >= 0 && lines[i].equals(indentOf(lines[begin]) + "}")) {
                Check.holds("the length of " + lines[begin], i - begin < MOST_LINES);
                begin = -1;
            }
        }
        Check.holds("the number of classes, " + classes, classes <= MOST_CLASSES);
    }

    private static String indentOf(String line) {
        return line.substring(0, line.length() - line.stripLeading().length());
    }
}
