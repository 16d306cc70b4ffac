import java.nio.charset.StandardCharsets;
import java.nio.file.Files;
import java.nio.file.Path;
import java.util.regex.Pattern;

/** What of ../shared/LANGUAGE.md can be seen in the text of the program alone; FaceTest looks at its classes. */
public final class LanguageTest {
    private static final Checks c = new Checks("LanguageTest");

    private static final String[] NEVER = {
        "\\bimport\\b", "\\bpackage\\b", "\\bthrow", "\\btry\\b", "\\bcatch\\b", "\\bfinally\\b", "\\bsynchronized\\b",
        "\\bassert\\b", "->", "::", "@", "static\\s*\\{", "\\bequals\\b", "\\bhashCode\\b", "\\btoString\\b",
        "\\bprotected\\b", "\\bfloat\\b", "\\bdouble\\b", "\\binstanceof\\b", "Exact\\b", "\\bSystem\\.(?!arraycopy)",
        "\\bString\\.", "\\bobject\\b(?=\\s*\\.)", "\\bvar\\b", "\\[\\]\\[\\]\\[\\]",
    };

    public static void main(String[] args) throws Exception {
        String source = Files.readString(Path.of(args[0]), StandardCharsets.US_ASCII);
        String code = source.replaceAll("(?s)/\\*.*?\\*/", "").replaceAll("//[^\n]*", "");
        for (String never : NEVER) {
            c.due("found " + never, Pattern.compile(never).matcher(code).find() ? 1 : 0, 0);
        }
        sizes(code);
        c.end();
    }

    private static void sizes(String code) {
        int longest = 0;
        int begun = 0;
        String[] lines = code.split("\n");
        for (int i = 0; i < lines.length; i++) {
            String line = lines[i];
            if (line.matches(" {4,8}[A-Za-z].*\\) \\{")) {
                begun = i;
                c.due("parameters in line " + (i + 1), line.split(",").length > 7 ? 1 : 0, 0);
            } else if (line.matches(" {4}(    )?\\}")) {
                longest = Math.max(longest, i - begun + 1);
            }
        }
        c.due("lines over sixty in a method", longest > 60 ? 1 : 0, 0);
    }
}
