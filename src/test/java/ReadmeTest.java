import java.io.IOException;
import java.lang.reflect.Method;
import java.lang.reflect.Modifier;
import java.nio.file.DirectoryStream;
import java.nio.file.Files;
import java.nio.file.Path;
import java.util.HashSet;
import java.util.Set;
import java.util.regex.Matcher;
import java.util.regex.Pattern;

/** What README.md says of use and of tests is as things stand. */
public final class ReadmeTest {
    private static final Due DUE = new Due("ReadmeTest");
    private static final Pattern EXAMPLE = Pattern.compile("(?s)```java\n(.*?)```");
    private static final Pattern CALL = Pattern.compile("lists\\.(\\w+)\\(((?:'.'|[^')])*)\\);");
    private static final Pattern ANSWER = Pattern.compile("; +// ([^:]+)");

    public static void main(String[] args) throws IOException {
        String page = Files.readString(Path.of("README.md"));
        Matcher example = EXAMPLE.matcher(page);
        DUE.yes("there is an example", example.find());
        Set<String> shown = askRows(example.group(1).split("\n"));
        for (Method method : QuakeLists.class.getDeclaredMethods()) {
            if (Modifier.isPublic(method.getModifiers())) {
                DUE.yes("the example shows " + method.getName(), shown.contains(method.getName()));
            }
        }
        try (DirectoryStream<Path> tests = Files.newDirectoryStream(Path.of("src/test/java"), "*Test.java")) {
            for (Path test : tests) {
                String name = test.getFileName().toString().replace(".java", "");
                DUE.yes("the page names " + name, page.contains("`" + name + "`"));
            }
        }
        DUE.yes("the page says how to run the tests", page.contains("```sh\n.ci/run\n```"));
        DUE.end();
    }

    /** Asks what stands in the rows, all of one object; answers which calls were seen. */
    private static Set<String> askRows(String[] rows) {
        QuakeLists lists = new QuakeLists();
        Set<String> shown = new HashSet<>();
        for (String row : rows) {
            long last = 0;
            Matcher call = CALL.matcher(row);
            while (call.find()) {
                last = new Asked(call.group(1), numbers(call.group(2))).of(lists);
                shown.add(call.group(1));
            }
            Matcher answer = ANSWER.matcher(row);
            if (answer.find()) {
                DUE.due(row, last, number(answer.group(1)));
            }
        }
        return shown;
    }

    private static int[] numbers(String arguments) {
        if (arguments.isEmpty()) {
            return new int[0];
        }
        // a comma may be an argument, too
        String[] words = arguments.split(", ");
        int[] numbers = new int[words.length];
        for (int i = 0; i < words.length; i++) {
            numbers[i] = (int) number(words[i]);
        }
        return numbers;
    }

    private static long number(String word) {
        switch (word) {
            case "true": return 1;
            case "false": return 0;
            case "NONE": return QuakeLists.NONE;
            case "STATE": return QuakeLists.STATE;
            case "UNKNOWN": return QuakeLists.UNKNOWN;
            case "LOST + OUTSIDE": return QuakeLists.LOST + QuakeLists.OUTSIDE;
            default: return word.startsWith("'") ? word.charAt(1) : Long.parseLong(word);
        }
    }
}
