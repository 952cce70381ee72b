import java.io.IOException;
import java.nio.file.Files;
import java.nio.file.Path;
import java.util.List;
import java.util.regex.Matcher;
import java.util.regex.Pattern;

/** What of LANGUAGE.md can be seen in the text of the program. It is run in the project's folder. */
public final class LanguageTest {
    private static final Due DUE = new Due();
    private static final List<String> NEVER = List.of(
        "->", "::", "\\bpackage\\b", "\\btry\\b", "\\bcatch\\b", "\\bfinally\\b", "\\bsynchronized\\b", "\\bassert\\b",
        "\\bwhile\\s*\\(true", "for\\s*\\(;;", "\\bSystem\\.", "\\bInteger\\.parse", "\\bExact\\b", "\\w+Exact\\(",
        "\\bvolatile\\b", "\\bThread\\b", "\\bRandom\\b", "\\bObject\\b", "\\bprotected\\b", "\\bhashCode\\b", "\\btoString\\b",
        "\\bdouble\\b", "\\bfloat\\b", "\\bString\\s*\\[", "\\bvar\\b", "\\brecord\\b", "\"\\s*\\+", "\\+\\s*\"", "static\\s*\\{");

    public static void main(String[] args) throws IOException {
        String text = Files.readString(Path.of("src/main/java/GallopRoads.java"));
        String bare = withoutComments(text);
        for (String never : NEVER) {
            Matcher m = Pattern.compile(never).matcher(bare);
            if (m.find()) {
                DUE.is("'" + m.group() + "' stands in the program:", true, false);
            }
        }
        Matcher imports = Pattern.compile("import ([^;]*);").matcher(bare);
        while (imports.find()) {
            DUE.is("import " + imports.group(1), imports.group(1).equals("java.util.NoSuchElementException"), true);
        }
        Matcher statics = Pattern.compile("(?m)^\\s*(private |public )?static (?!final)[^(]*[;=]").matcher(bare);
        DUE.is("a static field that is not final", statics.find(), false);
        boolean plain = text.chars().allMatch(c -> c >= 10 && c < 127);
        DUE.is("all signs are plain", plain, true);
        methodLengths(bare.split("\n"));
        DUE.end();
    }

    private static String withoutComments(String text) {
        String bare = Pattern.compile("/\\*.*?\\*/", Pattern.DOTALL).matcher(text).replaceAll("");
        return bare.replaceAll("//[^\n]*", "").replaceAll("\"[^\"\n]*\"", "\"\"");
    }

    private static void methodLengths(String[] lines) {
        int start = -1;
        for (int k = 0; k < lines.length; k++) {
            String line = lines[k];
            boolean opens = line.matches("^(    |        )[a-zA-Z].*\\)( throws [\\w, ]+)? \\{$")
                || line.matches("^ {12}throws .*\\{$");
            if (opens) {
                start = k;
            } else if (start >= 0 && line.matches("^(    |        )}$")) {
                DUE.is("lines of the method at '" + lines[start].trim() + "'", k - start < 60, true);
                start = -1;
            }
        }
    }
}
