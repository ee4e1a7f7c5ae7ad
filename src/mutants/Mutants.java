import java.io.IOException;
import java.io.PrintWriter;
import java.io.StringWriter;
import java.nio.file.Files;
import java.nio.file.Path;
import java.util.ArrayList;
import java.util.Comparator;
import java.util.HashSet;
import java.util.List;
import java.util.Map;
import java.util.Set;
import java.util.TreeMap;
import java.util.regex.Matcher;
import java.util.regex.Pattern;
import java.util.spi.ToolProvider;
import java.util.stream.Stream;

/**
 * Breaks the program, one place at a time, as mutants.txt tells, and looks whether the test of the sentence that is
 * broken then fails. No test of the program itself: it tells whether the tests are tests. Run by .ci/mutants.
 */
public final class Mutants {
    private record Mutant(String sentence, String behind, String old, String changed) {
    }

    private static final Path PROGRAM = Path.of("src/main/java/PlaySeason.java");
    private static final Path TESTS = Path.of("src/test/java");
    private static final Path LIST = Path.of("src/mutants/mutants.txt");
    private static final Pattern ROW = Pattern.compile("(\\S+) @ (.*) @ (.*) => (.*)");

    /** The folder where the tests are compiled, and one to work in. */
    public static void main(String[] args) throws IOException, InterruptedException {
        if (args.length != 2) {
            System.out.println("usage: Mutants <compiled tests> <folder to work in>");
            System.exit(2);
        }
        Map<String, String> tests = testsOfSentences();
        List<Mutant> mutants = mutants();
        Set<String> untried = new HashSet<>(tests.keySet());
        int alive = 0;
        for (int i = 0; i < mutants.size(); i++) {
            Mutant mutant = mutants.get(i);
            untried.remove(mutant.sentence());
            String told = outcome(mutant, tests.get(mutant.sentence()), args[0], Path.of(args[1], "mutant" + i));
            if (!told.isEmpty()) {
                alive++;
                System.out.println("[" + mutant.sentence() + "] " + mutant.old() + " => " + mutant.changed() + ": " + told);
            }
        }
        untried.stream().sorted(Comparator.naturalOrder()).forEach(s -> System.out.println("[" + s + "] has no mutant"));
        System.out.println(mutants.size() + " mutants, " + alive + " not found, " + untried.size() + " sentences without one");
        System.exit(alive == 0 && untried.isEmpty() ? 0 : 1);
    }

    /** Which test has which sentence. */
    private static Map<String, String> testsOfSentences() throws IOException {
        Map<String, String> tests = new TreeMap<>();
        List<Path> files;
        try (Stream<Path> all = Files.list(TESTS)) {
            files = all.filter(file -> file.toString().endsWith("Test.java")).toList();
        }
        for (Path file : files) {
            Matcher found = Pattern.compile("B\\.sentence\\(\"([^\"]*)\"").matcher(Files.readString(file));
            while (found.find()) {
                tests.put(found.group(1), file.getFileName().toString().replace(".java", ""));
            }
        }
        return tests;
    }

    private static List<Mutant> mutants() throws IOException {
        List<Mutant> mutants = new ArrayList<>();
        for (String line : Files.readAllLines(LIST)) {
            Matcher row = ROW.matcher(line);
            if (row.matches()) {
                mutants.add(new Mutant(row.group(1), row.group(2), row.group(3), row.group(4)));
            } else if (!line.isBlank() && !line.startsWith("#")) {
                throw new IOException("not a mutant: " + line);
            }
        }
        return mutants;
    }

    /** Empty, if the test of its sentence finds the mutant; else what is wrong. */
    private static String outcome(Mutant mutant, String test, String compiled, Path folder)
            throws IOException, InterruptedException {
        String program = Files.readString(PROGRAM);
        int behind = program.indexOf(mutant.behind());
        int place = behind < 0 ? -1 : program.indexOf(mutant.old(), behind);
        if (test == null || place < 0) {
            return test == null ? "there is no such sentence" : "the program has no such text";
        }
        String changed = program.substring(0, place) + mutant.changed() + program.substring(place + mutant.old().length());
        Files.createDirectories(folder);
        Path source = folder.resolve("PlaySeason.java");
        Files.writeString(source, changed);
        StringWriter told = new StringWriter();
        PrintWriter out = new PrintWriter(told);
        ToolProvider javac = ToolProvider.findFirst("javac").orElseThrow();
        if (javac.run(out, out, "--release", "17", "-d", folder.toString(), source.toString()) != 0) {
            return "does not compile: " + told;
        }
        String path = folder + System.getProperty("path.separator") + compiled;
        Process run = new ProcessBuilder("java", "-XX:TieredStopAtLevel=1", "-cp", path, test).redirectErrorStream(true).start();
        String printed = new String(run.getInputStream().readAllBytes());
        run.waitFor();
        return printed.contains("[" + mutant.sentence() + "] ") ? "" : "is not found";
    }
}
