import java.io.IOException;
import java.lang.reflect.Field;
import java.lang.reflect.Modifier;
import java.nio.file.Files;
import java.nio.file.Path;
import java.util.ArrayList;
import java.util.HashMap;
import java.util.HashSet;
import java.util.List;
import java.util.Map;
import java.util.Set;
import java.util.regex.Matcher;
import java.util.regex.Pattern;

/** Rules of LANGUAGE.md that can be seen in the text of the class. */
public final class LanguageTest {
    private static final Due DUE = new Due("LanguageTest");
    private static final String[] FORBIDDEN = {
        "\\bimport\\b", "\\bpackage\\b", "\\bthrow\\b", "\\bthrows\\b", "\\btry\\b", "\\bcatch\\b",
        "\\bsynchronized\\b", "\\bassert\\b", "\\bprotected\\b", "->", "::", "\\bRandom\\b", "\\bSystem\\.(?!arraycopy)",
        "\\bThread\\b", "\\bdouble\\b", "\\bfloat\\b", "Exact\\(", "\\bhashCode\\b", "\\btoString\\b", "\"",
        "for \\(;;\\)", "while \\(true\\)", "\\bvar\\b"
    };
    private static final Pattern METHOD = Pattern.compile("^ +(?:public|private) [^=;]*\\(([^)]*)\\) \\{$");
    private static final Pattern NAMED = Pattern.compile("(\\w+)\\(");
    private static final int MOST_FIELDS = 20;
    private static final int DEEPEST = 8;
    /** What a static field may be, beside being final. */
    private static final Set<Class<?>> STATIC_TYPES = Set.of(int.class, long.class, boolean.class, char.class,
        String.class, int[].class, long[].class, char[].class, byte[].class);

    public static void main(String[] args) throws IOException {
        String text = Files.readString(Path.of("src/main/java/QuakeLists.java"));
        for (int i = 0; i < text.length(); i++) {
            if (text.charAt(i) > 126) {
                DUE.yes("sign " + i + " is plain", false);
            }
        }
        String code = text.replaceAll("(?s)/\\*.*?\\*/", "").replaceAll("//[^\n]*", "");
        for (String forbidden : FORBIDDEN) {
            DUE.yes("there is no " + forbidden, !Pattern.compile(forbidden).matcher(code).find());
        }
        DUE.yes("at most twelve classes", count(code, "\\bclass ") <= 12);
        DUE.yes("classes inside are static", count(code, "\\bclass ") == 1 + count(code, "\\bstatic final class "));
        DUE.yes("static fields are final", !Pattern.compile("\\bstatic (?!final)[^(]*[;=]").matcher(
            code.replaceAll("static [^=;{]*\\([^)]*\\) \\{", "")).find());
        methods(text.split("\n"));
        library(code);
        depths(code.split("\n"));
        fields(QuakeLists.class);
        for (Class<?> inside : QuakeLists.class.getDeclaredClasses()) {
            fields(inside);
        }
        DUE.end();
    }

    /** Rule 4, of which the class uses functions of Math alone. */
    private static void library(String code) {
        Matcher used = Pattern.compile("\\b(?:Math|Integer|Long|Arrays|System|List|String)\\.\\w+").matcher(code);
        while (used.find()) {
            boolean left = Set.of("Math.abs", "Math.floorMod", "Math.max", "Math.min").contains(used.group());
            DUE.yes(used.group() + " is of the library that is left", left);
        }
    }

    /** Rules 8 and 11: by the names that stand in each method no chain of calls is too deep, and none calls itself. */
    private static void depths(String[] lines) {
        Map<String, Set<String>> calls = new HashMap<>();
        for (int line = 0; line < lines.length; line++) {
            if (!METHOD.matcher(lines[line]).find()) {
                continue;
            }
            Matcher name = NAMED.matcher(lines[line]);
            Set<String> called = name.find() ? calls.computeIfAbsent(name.group(1), n -> new HashSet<>()) : Set.of();
            String indent = lines[line].substring(0, lines[line].indexOf('p'));
            for (int at = line + 1; !lines[at].equals(indent + "}"); at++) {
                Matcher inside = NAMED.matcher(lines[at]);
                while (inside.find()) {
                    called.add(inside.group(1));
                }
            }
        }
        for (String name : calls.keySet()) {
            DUE.yes("calls of " + name + " end within " + DEEPEST, endsWithin(calls, name, DEEPEST));
        }
    }

    private static boolean endsWithin(Map<String, Set<String>> calls, String name, int levels) {
        if (!calls.containsKey(name)) {
            return true;
        }
        if (levels == 0) {
            return false;
        }
        for (String next : calls.get(name)) {
            if (!endsWithin(calls, next, levels - 1)) {
                return false;
            }
        }
        return true;
    }

    /** Rules 3, 5 and 11, of fields. */
    private static void fields(Class<?> one) {
        List<String> own = new ArrayList<>();
        for (Field field : one.getDeclaredFields()) {
            String name = one.getSimpleName() + "." + field.getName();
            if (Modifier.isStatic(field.getModifiers())) {
                DUE.yes(name + " is final", Modifier.isFinal(field.getModifiers()));
                DUE.yes(name + " has a type for static fields", STATIC_TYPES.contains(field.getType()));
            } else {
                own.add(name);
                DUE.yes(name + " has a type that is left", mayBeHeld(field.getType()));
            }
        }
        DUE.yes(one.getSimpleName() + " has few fields: " + own, own.size() <= MOST_FIELDS);
    }

    private static boolean mayBeHeld(Class<?> type) {
        Class<?> held = type.isArray() ? type.getComponentType() : type;
        if (held.isArray()) {
            return held.getComponentType().isPrimitive();
        }
        return held.isPrimitive() || held.getEnclosingClass() == QuakeLists.class;
    }

    private static int count(String code, String what) {
        Matcher matcher = Pattern.compile(what).matcher(code);
        int many = 0;
        while (matcher.find()) {
            many++;
        }
        return many;
    }

    private static void methods(String[] lines) {
        int found = 0;
        for (int line = 0; line < lines.length; line++) {
            Matcher matcher = METHOD.matcher(lines[line]);
            if (!matcher.find()) {
                continue;
            }
            found++;
            String indent = lines[line].substring(0, lines[line].indexOf('p'));
            int end = line;
            while (!lines[end].equals(indent + "}")) {
                end++;
            }
            DUE.yes("a short method: " + lines[line], end - line < 60);
            DUE.yes("few parameters: " + lines[line], matcher.group(1).split(",").length <= 7);
        }
        DUE.yes("the methods were found", found > 80);
    }
}
