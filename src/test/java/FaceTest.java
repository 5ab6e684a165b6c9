import java.io.IOException;
import java.lang.reflect.Field;
import java.lang.reflect.Method;
import java.lang.reflect.Modifier;
import java.nio.file.Files;
import java.nio.file.Path;
import java.util.ArrayList;
import java.util.Arrays;
import java.util.HashSet;
import java.util.List;
import java.util.Set;
import java.util.TreeSet;
import java.util.regex.Matcher;
import java.util.regex.Pattern;

/** The face is the document's and no more; the source keeps to what LANGUAGE.md says where a text can show it. */
public final class FaceTest {
    private static final Check check = new Check();
    private static final String[] FACE = {
        "int type(int,int)", "int wipe(int)", "int undo(int)", "int fault(int)", "int read(int,int)", "int turn(int,int)",
        "int power(int,int)", "int rounds(int)", "int shows(int)", "int term(int,int)", "int shown(int,int)", "int turned(int,int)",
        "int alike(int)", "int solved(int)", "int value(int,int)", "int fresh(int)", "int needs(int)", "int way(int,int)", "int spare()",
        "int sheet(int,int,int)", "int lose(int)", "int lay(int,int,int,int)", "int get(int,int,int)", "int copy(int,int,int,int,int)",
        "int write(int,int)", "int count(int)", "long digest()"};

    public static void main(String[] args) throws IOException {
        face();
        classesInside();
        source(Files.readString(Path.of("src/main/java/SwapNames.java")));
        check.end("FaceTest");
    }

    private static void face() {
        Set<String> methods = new TreeSet<>();
        for (Method method : SwapNames.class.getDeclaredMethods()) {
            if (!Modifier.isPrivate(method.getModifiers())) {
                methods.add(Modifier.toString(method.getModifiers()) + " " + signature(method));
            }
        }
        Set<String> want = new TreeSet<>();
        Arrays.stream(FACE).map(s -> "public " + s).forEach(want::add);
        check.due("methods", methods.toString(), want.toString());
        Set<String> fields = new TreeSet<>();
        for (Field field : SwapNames.class.getDeclaredFields()) {
            if (!Modifier.isPrivate(field.getModifiers())) {
                fields.add(field.toString());
            }
        }
        String constant = "public static final int SwapNames.";
        check.due("fields", fields.toString(), new TreeSet<>(List.of(constant + "NONE", constant + "BAD", constant + "NOT", constant + "FULL")).toString());
        check.due("constructors", SwapNames.class.getDeclaredConstructors().length, 1);
        check.due("class", Modifier.toString(SwapNames.class.getModifiers()), "public final");
        check.due("constants", SwapNames.NONE + " " + SwapNames.BAD + " " + SwapNames.NOT + " " + SwapNames.FULL, "-1 -2 -3 -4");
    }

    private static String signature(Method method) {
        List<String> types = new ArrayList<>();
        for (Class<?> type : method.getParameterTypes()) {
            types.add(type.getSimpleName());
        }
        return method.getReturnType().getSimpleName() + " " + method.getName() + "(" + String.join(",", types) + ")";
    }

    private static void classesInside() {
        Set<String> publicNames = new HashSet<>();
        for (String line : FACE) {
            publicNames.add(line.substring(line.indexOf(' ') + 1, line.indexOf('(')));
        }
        Class<?>[] inside = SwapNames.class.getDeclaredClasses();
        check.due("few classes", inside.length <= 11 ? 1 : 0, 1);
        for (Class<?> one : inside) {
            check.due(one + " is static", Modifier.isStatic(one.getModifiers()) ? 1 : 0, 1);
            check.due(one + " has few fields", Arrays.stream(one.getDeclaredFields()).filter(f -> !Modifier.isStatic(f.getModifiers())).count() <= 20 ? 1 : 0, 1);
            for (Method method : one.getDeclaredMethods()) {
                check.due(method + " has a name of its own", publicNames.contains(method.getName()) ? 1 : 0, 0);
                check.due(method + " has few parameters", method.getParameterCount() <= 7 ? 1 : 0, 1);
            }
        }
        for (Method method : SwapNames.class.getDeclaredMethods()) {
            boolean isDouble = Modifier.isPrivate(method.getModifiers()) && publicNames.contains(method.getName());
            check.due(method + " has a name of its own", isDouble ? 1 : 0, 0);
        }
        for (Field field : SwapNames.class.getDeclaredFields()) {
            boolean isLoose = Modifier.isStatic(field.getModifiers()) && !Modifier.isFinal(field.getModifiers());
            check.due(field + " is no static state", isLoose ? 1 : 0, 0);
        }
    }

    private static void source(String text) {
        String code = text.replaceAll("(?s)/\\*.*?\\*/", "").replaceAll("//[^\n]*", "").replaceAll("'.'", "' '");
        for (String word : new String[] {"throw", "throws", "try", "catch", "finally", "synchronized", "assert", "package", "protected",
            "System.out", "System.in", "System.err", "System.nanoTime", "System.currentTimeMillis", "Random", "Thread", "volatile",
            "transient", "native", "HashMap", "Map", "Set", "Scanner", "Object", "Exact", "hashCode", "toString", "var", "yield"}) {
            Matcher found = Pattern.compile("\\b" + Pattern.quote(word) + "\\b").matcher(code);
            check.due("'" + word + "' in the source", found.find() ? 1 : 0, 0);
        }
        for (String sign : new String[] {"->", "::", "@"}) {
            check.due("'" + sign + "' in the source", code.contains(sign) ? 1 : 0, 0);
        }
        check.due("imports", Pattern.compile("(?m)^import (?!java\\.util\\.Arrays;)").matcher(code).find() ? 1 : 0, 0);
        check.due("signs are 1 to 127", text.chars().allMatch(c -> c > 0 && c < 128) ? 1 : 0, 1);
        int longest = 0;
        int opened = 0;
        String[] lines = text.split("\n");
        for (int i = 0; i < lines.length; i++) {
            if (lines[i].matches(" {4,8}[a-z].*\\) \\{") && !lines[i].matches(" *(if|for|while|switch) .*")) {
                opened = i;
            } else if (lines[i].matches(" {4,8}\\}")) {
                longest = Math.max(longest, i - opened + 1);
                opened = i;
            }
        }
        check.due("methods are short", longest <= 60 ? 0 : longest, 0);
    }
}
