import java.io.IOException;
import java.lang.reflect.InvocationTargetException;
import java.lang.reflect.Method;
import java.nio.file.Files;
import java.nio.file.Path;
import java.util.ArrayList;
import java.util.List;
import java.util.Set;
import java.util.TreeSet;
import java.util.regex.Matcher;
import java.util.regex.Pattern;
import java.util.stream.Collectors;
import java.util.stream.Stream;

/** README.md is true: the answers in its example, the face as the document has it, a row for every test. */
public final class ReadmeTest {
    private static final Check check = new Check();
    private static final Pattern TYPED = Pattern.compile("for \\(char b : \"(.*)\"\\.toCharArray\\(\\)\\) x\\.type\\((\\d), b\\);");
    private static final Pattern ASKED = Pattern.compile("x\\.(\\w+)\\((.*?)\\);\\s*// (-?\\d+):.*");
    private static final Pattern IN_FACE = Pattern.compile("(?m)^    public ((?:int|long) \\w+\\([^)]*\\));");

    public static void main(String[] args) throws IOException, ReflectiveOperationException {
        String page = Files.readString(Path.of("README.md"));
        example(page.substring(page.indexOf("```java\n") + 8, page.indexOf("```\n", page.indexOf("```java\n") + 8)));
        face(page, Files.readString(Path.of("../shared/DOC.md")));
        tests(page);
        check.end("ReadmeTest");
    }

    private static void example(String code) throws ReflectiveOperationException {
        SwapNames x = new SwapNames();
        int asked = 0;
        for (String line : code.split("\n")) {
            Matcher typed = TYPED.matcher(line);
            Matcher call = ASKED.matcher(line);
            if (typed.matches()) {
                for (char b : typed.group(1).toCharArray()) {
                    x.type(Integer.parseInt(typed.group(2)), b);
                }
            } else if (call.matches()) {
                check.due("README.md: " + line, answer(x, call.group(1), call.group(2)), Long.parseLong(call.group(3)));
                asked++;
            } else {
                check.due("a line of the example", line, "SwapNames x = new SwapNames();");
            }
        }
        check.due("the example has answers", asked > 20 ? 1 : 0, 1);
    }

    private static long answer(SwapNames x, String name, String numbers) throws ReflectiveOperationException {
        List<Object> with = new ArrayList<>();
        for (String number : numbers.isEmpty() ? new String[0] : numbers.split(", ")) {
            with.add(number.startsWith("'") ? number.charAt(1) : Integer.parseInt(number));
        }
        for (Method method : SwapNames.class.getMethods()) {
            if (method.getName().equals(name) && method.getParameterCount() == with.size()) {
                return told(x, method, with.toArray());
            }
        }
        check.due("calls like " + name + "(" + numbers + ")", 0, 1);
        return 0;
    }

    private static long told(SwapNames x, Method method, Object[] with) throws IllegalAccessException, InvocationTargetException {
        return ((Number) method.invoke(x, with)).longValue();
    }

    private static void face(String page, String document) {
        Matcher one = IN_FACE.matcher(document);
        int calls = 0;
        while (one.find()) {
            check.due("README.md has " + one.group(1), page.contains("\n| `" + one.group(1) + "` | ") ? 1 : 0, 1);
            calls++;
        }
        check.due("calls of the document", calls, 27);
        check.due("calls of README.md", rows(page, "`(?:int|long) (\\w+)\\(.*?\\)`").size(), calls);
    }

    private static void tests(String page) throws IOException {
        Set<String> files = new TreeSet<>();
        try (Stream<Path> all = Files.list(Path.of("src/test/java"))) {
            files.addAll(all.map(file -> file.getFileName().toString().replace(".java", "")).filter(name -> name.endsWith("Test")).collect(Collectors.toSet()));
        }
        check.due("tests of README.md", rows(page, "(\\w+Test)").toString(), files.toString());
    }

    private static Set<String> rows(String page, String first) {
        Set<String> found = new TreeSet<>();
        Matcher row = Pattern.compile("(?m)^\\| " + first + " \\| ").matcher(page);
        while (row.find()) {
            found.add(row.group(1));
        }
        return found;
    }
}
