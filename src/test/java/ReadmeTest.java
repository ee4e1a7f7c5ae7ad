import java.io.IOException;
import java.lang.reflect.InvocationTargetException;
import java.lang.reflect.Method;
import java.nio.file.Files;
import java.nio.file.Path;
import java.util.ArrayList;
import java.util.HashSet;
import java.util.LinkedHashMap;
import java.util.List;
import java.util.Map;
import java.util.Set;
import java.util.TreeSet;
import java.util.regex.Matcher;
import java.util.regex.Pattern;
import java.util.stream.Stream;

/** README.md: that its examples answer as it says, and that its tables have each call, each refusal and each test. */
public final class ReadmeTest {
    private static final Due DUE = new Due();
    private static final Pattern REFUSAL = Pattern.compile("\\b(UNKNOWN|OUTSIDE|STATE|FULL)\\b");
    private static final Pattern ROW = Pattern.compile("(?m)^\\| `(\\w+)\\(([^)]*)\\)` \\| (.*) \\| (.*) \\|$");
    private static final Pattern WRITE = Pattern.compile("write\\(season, \"([^\"]*)\"\\);");
    private static final Pattern CALL = Pattern.compile("season\\.(\\w+)\\((.*)\\); +// (-?\\d+|[A-Z]+)(?:: .*)?");

    /** What the examples show: a call's name, and its name with each refusal that it answered. */
    private static final Set<String> SHOWN = new HashSet<>();

    private static PlaySeason season;

    public static void main(String[] args) throws IOException, ReflectiveOperationException {
        String readme = Files.readString(Path.of("README.md"));
        examples(readme);
        Map<String, List<String>> refusals = rows(readme);
        refusalsAsInTheDocument(refusals);
        refusalsAreShown(refusals);
        constants(readme);
        tests(readme);
        DUE.end();
    }

    private static void so(String what, boolean is) {
        DUE.is("README.md: whether " + what, is ? 1 : 0, 1);
    }

    // ---- examples

    private static void examples(String readme) throws ReflectiveOperationException {
        Matcher block = Pattern.compile("(?s)```java\n(.*?)```").matcher(readme);
        int blocks = 0;
        while (block.find()) {
            if (block.group(1).startsWith("PlaySeason season = new PlaySeason();\n")) {
                blocks++;
                for (String line : block.group(1).split("\n")) {
                    example(line);
                }
            }
        }
        so("there are examples", blocks > 0);
    }

    private static void example(String line) throws ReflectiveOperationException {
        Matcher write = WRITE.matcher(line);
        Matcher call = CALL.matcher(line);
        if (line.equals("PlaySeason season = new PlaySeason();")) {
            season = new PlaySeason();
        } else if (write.matches()) {
            Due.type(season, write.group(1));
        } else if (call.matches()) {
            String name = call.group(1);
            DUE.is("README.md: " + line, answer(name, call.group(2)), number(call.group(3)));
            SHOWN.add(REFUSAL.matcher(call.group(3)).matches() ? name + " " + call.group(3) : name);
        } else {
            so("this can be read: " + line, false);
        }
    }

    private static long answer(String name, String arguments) throws ReflectiveOperationException {
        String[] texts = arguments.isEmpty() ? new String[0] : arguments.split(", ");
        for (Method method : PlaySeason.class.getMethods()) {
            if (method.getName().equals(name) && method.getParameterCount() == texts.length) {
                Object[] values = new Object[texts.length];
                for (int i = 0; i < texts.length; i++) {
                    values[i] = value(method.getParameterTypes()[i], texts[i]);
                }
                try {
                    return ((Number) method.invoke(season, values)).longValue();
                } catch (InvocationTargetException thrown) {
                    so("nothing is thrown by " + name + "(" + arguments + ")", false);
                }
            }
        }
        throw new NoSuchMethodException(name + "(" + arguments + ")");
    }

    private static Object value(Class<?> type, String text) throws ReflectiveOperationException {
        if (type == boolean.class) {
            return text.equals("true");
        }
        if (text.startsWith("'")) {
            return (int) text.charAt(1);
        }
        return (int) number(text.replace("PlaySeason.", ""));
    }

    private static long number(String text) throws ReflectiveOperationException {
        return text.matches("[A-Z]+") ? PlaySeason.class.getField(text).getInt(null) : Long.parseLong(text);
    }

    // ---- tables

    /** The refusals of each call, as its row tells them; each call of the program has one row, with its parameters. */
    private static Map<String, List<String>> rows(String readme) throws IOException {
        String source = Files.readString(Path.of("src/main/java/PlaySeason.java"));
        Map<String, List<String>> refusals = new LinkedHashMap<>();
        Matcher row = ROW.matcher(readme);
        while (row.find()) {
            String name = row.group(1);
            String head = " " + name + "(" + row.group(2) + ") {";
            so("the program has " + head, source.contains("public int" + head) || source.contains("public long" + head));
            so("there is one row of " + name, refusals.put(name, refusalsIn(row.group(4))) == null);
            so(name + " is never refused, or its row tells when", row.group(4).equals("never") == refusals.get(name).isEmpty());
        }
        for (Method method : PlaySeason.class.getDeclaredMethods()) {
            if (java.lang.reflect.Modifier.isPublic(method.getModifiers())) {
                so("there is a row of " + method.getName(), refusals.containsKey(method.getName()));
                so("an example shows " + method.getName(), SHOWN.contains(method.getName()));
            }
        }
        return refusals;
    }

    private static List<String> refusalsIn(String text) {
        List<String> found = new ArrayList<>();
        Matcher refusal = REFUSAL.matcher(text);
        while (refusal.find()) {
            found.add(refusal.group(1));
        }
        return found;
    }

    private static void refusalsAsInTheDocument(Map<String, List<String>> refusals) throws IOException {
        String document = Files.readString(Path.of("../shared/DOC.md"));
        Matcher promise = Pattern.compile("(?s)## Promise \\d+: (\\w+)\n(.*?)(?=\n## )").matcher(document);
        int promises = 0;
        while (promise.find()) {
            String name = promise.group(1);
            if (refusals.containsKey(name)) {
                promises++;
                List<String> due = refusalsIn(promise.group(2));
                so("the refusals of " + name + " are, in order, " + due, due.equals(refusals.get(name)));
            }
        }
        DUE.is("README.md: how many promises of the document have a row", promises, refusals.size());
    }

    private static void refusalsAreShown(Map<String, List<String>> refusals) {
        for (Map.Entry<String, List<String>> row : refusals.entrySet()) {
            for (String refusal : row.getValue()) {
                so("an example shows " + row.getKey() + " " + refusal, SHOWN.contains(row.getKey() + " " + refusal));
            }
        }
    }

    private static void constants(String readme) throws ReflectiveOperationException {
        for (String name : new String[] {"UNKNOWN", "OUTSIDE", "STATE", "FULL"}) {
            so("it tells the value of " + name, readme.contains("| `" + name + "` | " + number(name) + " |"));
        }
        so("it tells the value of NONE", readme.contains("`NONE` (" + PlaySeason.NONE + ")"));
    }

    private static void tests(String readme) throws IOException {
        Set<String> told = new TreeSet<>();
        Matcher row = Pattern.compile("(?m)^\\| (\\w+Test) \\| .* \\|$").matcher(readme);
        while (row.find()) {
            told.add(row.group(1));
        }
        Set<String> are = new TreeSet<>();
        try (Stream<Path> files = Files.list(Path.of("src/test/java"))) {
            files.map(file -> file.getFileName().toString()).filter(name -> name.endsWith("Test.java"))
                .forEach(name -> are.add(name.substring(0, name.length() - ".java".length())));
        }
        so("it tells of the tests that there are: " + are, told.equals(are));
    }
}
