import java.nio.charset.StandardCharsets;
import java.nio.file.Files;
import java.nio.file.Path;
import java.util.regex.Matcher;
import java.util.regex.Pattern;

/** What of ../shared/LANGUAGE.md can be seen in the text of the program alone. */
public final class LanguageTest {
    private static final Checks c = new Checks("LanguageTest");

    private static final String[] NEVER = {
        "\\bimport\\b", "\\bpackage\\b", "\\bthrow", "\\btry\\b", "\\bcatch\\b", "\\bfinally\\b", "\\bsynchronized\\b",
        "\\bassert\\b", "->", "::", "@", "static\\s*\\{", "\\bequals\\b", "\\bhashCode\\b", "\\btoString\\b",
        "\\bprotected\\b", "\\bfloat\\b", "\\bdouble\\b", "\\binstanceof\\b", "Exact\\b", "\\bSystem\\.(?!arraycopy)",
        "\\bString\\.", "\\bobject\\b(?=\\s*\\.)", "\\bvar\\b", "\\[\\]\\[\\]\\[\\]",
    };

    public static void main(String[] args) throws Exception {
        String source = Files.readString(Path.of(args[0]), StandardCharsets.US_ASCII);
        String code = source.replaceAll("(?s)/\\*.*?\\*/", "").replaceAll("//[^\n]*", "");
        for (String never : NEVER) {
            c.due("found " + never, Pattern.compile(never).matcher(code).find() ? 1 : 0, 0);
        }
        face(code);
        sizes(code);
        c.end();
    }

    /** Public is the face alone, and no other method bears the name of one of its. */
    private static void face(String code) {
        Matcher m = Pattern.compile("public (?:int|long) (\\w+)\\(").matcher(code);
        int methods = 0;
        while (m.find()) {
            methods++;
            String again = "(?:private|static|int|long|boolean|void|String) " + m.group(1) + "\\(";
            int found = 0;
            Matcher all = Pattern.compile(again).matcher(code);
            while (all.find()) {
                found++;
            }
            c.due("methods named " + m.group(1), found, 1);
        }
        c.due("methods of the face", methods, 40);
        c.due("constructors and methods and constants and the class", count(code, "\\bpublic\\b"), 43);
        c.due("static fields that are not final", count(code, "(?m)^\\s*(?:private |public )?static (?!final|class|abstract)[^(\\n]*;"), 0);
        c.due("classes that are not static", count(code, "(?m)^    (?!.*static).*\\b(?:class|record|enum|interface) "), 0);
    }

    private static int count(String code, String what) {
        Matcher m = Pattern.compile(what).matcher(code);
        int found = 0;
        while (m.find()) {
            found++;
        }
        return found;
    }

    private static void sizes(String code) {
        int longest = 0;
        int begun = 0;
        int classes = 0;
        String[] lines = code.split("\n");
        for (int i = 0; i < lines.length; i++) {
            String line = lines[i];
            if (line.matches(".*\\bclass \\w+.*")) {
                classes++;
            } else if (line.matches(" {4,8}[A-Za-z].*\\) \\{")) {
                begun = i;
                c.due("parameters in line " + (i + 1), line.split(",").length > 7 ? 1 : 0, 0);
            } else if (line.matches(" {4}(    )?\\}")) {
                longest = Math.max(longest, i - begun + 1);
            }
        }
        c.due("classes over twelve", Math.max(0, classes - 12), 0);
        c.due("lines over sixty in a method", longest > 60 ? 1 : 0, 0);
    }
}
