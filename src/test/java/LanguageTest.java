import java.io.IOException;
import java.nio.file.Files;
import java.nio.file.Path;
import java.util.regex.Matcher;
import java.util.regex.Pattern;

/** Rules of LANGUAGE.md that can be seen in the text of the class. */
public final class LanguageTest {
    private static final Due DUE = new Due("LanguageTest");
    private static final String[] FORBIDDEN = {
        "\\bimport\\b", "\\bpackage\\b", "\\bthrow\\b", "\\bthrows\\b", "\\btry\\b", "\\bcatch\\b",
        "\\bsynchronized\\b", "\\bassert\\b", "\\bprotected\\b", "->", "::", "\\bRandom\\b", "\\bSystem\\.(?!arraycopy)",
        "\\bThread\\b", "\\bdouble\\b", "\\bfloat\\b", "Exact\\(", "\\bhashCode\\b", "\\btoString\\b", "\"",
        "for \\(;;\\)", "while \\(true\\)", "\\bvar\\b"
    };
    private static final Pattern METHOD = Pattern.compile("^ +(?:public|private) [^=;]*\\(([^)]*)\\) \\{$");

    public static void main(String[] args) throws IOException {
        String text = Files.readString(Path.of("src/main/java/QuakeLists.java"));
        for (int i = 0; i < text.length(); i++) {
            if (text.charAt(i) > 126) {
                DUE.yes("sign " + i + " is plain", false);
            }
        }
        String code = text.replaceAll("(?s)/\\*.*?\\*/", "").replaceAll("//[^\n]*", "");
        for (String forbidden : FORBIDDEN) {
            DUE.yes("there is no " + forbidden, !Pattern.compile(forbidden).matcher(code).find());
        }
        DUE.yes("at most twelve classes", count(code, "\\bclass ") <= 12);
        DUE.yes("classes inside are static", count(code, "\\bclass ") == 1 + count(code, "\\bstatic final class "));
        DUE.yes("static fields are final", !Pattern.compile("\\bstatic (?!final)[^(]*[;=]").matcher(
            code.replaceAll("static [^=;{]*\\([^)]*\\) \\{", "")).find());
        methods(text.split("\n"));
        DUE.end();
    }

    private static int count(String code, String what) {
        Matcher matcher = Pattern.compile(what).matcher(code);
        int many = 0;
        while (matcher.find()) {
            many++;
        }
        return many;
    }

    private static void methods(String[] lines) {
        int found = 0;
        for (int line = 0; line < lines.length; line++) {
            Matcher matcher = METHOD.matcher(lines[line]);
            if (!matcher.find()) {
                continue;
            }
            found++;
            String indent = lines[line].substring(0, lines[line].indexOf('p'));
            int end = line;
            while (!lines[end].equals(indent + "}")) {
                end++;
            }
            DUE.yes("a short method: " + lines[line], end - line < 60);
            DUE.yes("few parameters: " + lines[line], matcher.group(1).split(",").length <= 7);
        }
        DUE.yes("the methods were found", found > 80);
    }
}
