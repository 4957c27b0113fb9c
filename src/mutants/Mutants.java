import java.io.IOException;
import java.nio.file.Files;
import java.nio.file.Path;
import java.util.ArrayList;
import java.util.LinkedHashSet;
import java.util.List;
import java.util.Set;
import java.util.concurrent.ExecutorService;
import java.util.concurrent.Executors;
import java.util.concurrent.Future;
import java.util.concurrent.TimeUnit;
import java.util.regex.Matcher;
import java.util.regex.Pattern;

/**
 * Tests the tests of sentences: mutants.txt tells changes of the class that break a sentence each,
 * and the test that names the sentence must fail by it. And no test may ask an object what the
 * document leaves free: all must pass with a class that answers wrongly from call 513 on. Run by
 * .ci/mutants, with the directory of the compiled tests and one for what is made.
 */
public final class Mutants {
    private static final Path PROGRAM = Path.of("src/main/java/TapeEngine.java");
    private static final Path LIST = Path.of("src/mutants/mutants.txt");
    private static final Path TESTS = Path.of("src/test/java");
    private static final Pattern SENTENCE = Pattern.compile("Check\\.sentence\\(((?:[\\s+]*\"(?:[^\"\\\\]|\\\\.)*\")+)\\)");
    private static final Pattern TEXT = Pattern.compile("\"((?:[^\"\\\\]|\\\\.)*)\"");

    private static final Pattern PUBLIC_CALL = Pattern.compile("(?m)^    public (int|long) \\w+\\(.*\\) \\{$");
    private static final String WEARS_OUT = " if (++calls > 512) { return 77; }";

    private record Mutant(String sentence, String from, String to) {
    }

    public static void main(String[] args) throws Exception {
        Path tests = Path.of(args[0]);
        Path made = Path.of(args[1]);
        String program = Files.readString(PROGRAM);
        List<Mutant> mutants = read();
        List<String> names = testsOfSentences();
        Set<String> untested = sentences(names);
        ExecutorService workers = Executors.newFixedThreadPool(Runtime.getRuntime().availableProcessors());
        List<Future<String>> faults = new ArrayList<>();
        for (int i = 0; i < mutants.size(); i++) {
            Mutant m = mutants.get(i);
            Path place = made.resolve("m" + i);
            untested.removeIf(s -> ("\"" + s + "\"").startsWith("\"" + m.sentence));
            faults.add(workers.submit(() -> faultOf(m, program, tests, place, names)));
        }
        List<String> overusing = testsThatOveruse(program, tests, made.resolve("worn"));
        int wrong = untested.size() + overusing.size();
        overusing.forEach(n -> System.out.println("uses an object for more than 512 calls: " + n));
        untested.forEach(s -> System.out.println("no mutant breaks: " + s));
        for (Future<String> fault : faults) {
            wrong += fault.get().isEmpty() ? 0 : 1;
            System.out.print(fault.get());
        }
        workers.shutdown();
        System.out.println(mutants.size() + " mutants, " + wrong + " faults");
        System.exit(wrong == 0 ? 0 : 1);
    }

    /** Records of lines "@ sentence", "- from", "+ to"; \n in them is a line's end. */
    private static List<Mutant> read() throws IOException {
        List<Mutant> mutants = new ArrayList<>();
        String sentence = "";
        String from = "";
        for (String line : Files.readAllLines(LIST)) {
            String text = line.length() > 2 ? line.substring(2).replace("\\n", "\n") : "";
            if (line.startsWith("@")) {
                sentence = text;
            } else if (line.startsWith("-")) {
                from = text;
            } else if (line.startsWith("+")) {
                mutants.add(new Mutant(sentence, from, text));
            }
        }
        return mutants;
    }

    private static List<String> testsOfSentences() throws IOException {
        try (var files = Files.list(TESTS)) {
            return files.map(f -> f.getFileName().toString().replace(".java", ""))
                .filter(n -> n.endsWith("EdgesTest") || n.equals("RefusalTest")).sorted().toList();
        }
    }

    private static Set<String> sentences(List<String> names) throws IOException {
        Set<String> all = new LinkedHashSet<>();
        for (String name : names) {
            Matcher call = SENTENCE.matcher(Files.readString(TESTS.resolve(name + ".java")));
            while (call.find()) {
                StringBuilder sentence = new StringBuilder();
                Matcher text = TEXT.matcher(call.group(1));
                while (text.find()) {
                    sentence.append(text.group(1).replace("\\\"", "\""));
                }
                all.add(sentence.toString());
            }
        }
        return all;
    }

    private static List<String> testsThatOveruse(String program, Path tests, Path place) throws Exception {
        String worn = PUBLIC_CALL.matcher(program).replaceAll("$0" + WEARS_OUT)
            .replace("    public TapeEngine() {", "    private int calls = 0;\n\n    public TapeEngine() {");
        Files.createDirectories(place);
        Path source = Files.writeString(place.resolve("TapeEngine.java"), worn);
        String errors = run(List.of("javac", "-d", place.toString(), source.toString()));
        List<String> overusing = new ArrayList<>();
        try (var files = Files.list(TESTS)) {
            for (String name : files.map(f -> f.getFileName().toString().replace(".java", "")).sorted().toList()) {
                String path = place + ":" + tests;
                if (name.endsWith("Test") && !run(List.of("java", "-cp", path, name)).equals("all answers are as due\n")) {
                    overusing.add(name + errors);
                }
            }
        }
        return overusing;
    }

    /** What is wrong with the test of the mutant's sentence; empty if it fails as it should. */
    private static String faultOf(Mutant m, String program, Path tests, Path place, List<String> names) throws Exception {
        String told = "@ " + m.sentence + "\n- " + m.from + "\n+ " + m.to + "\n";
        int at = program.indexOf(m.from);
        if (at < 0 || program.indexOf(m.from, at + 1) >= 0) {
            return "not once in the program:\n" + told;
        }
        Files.createDirectories(place);
        Path source = place.resolve("TapeEngine.java");
        Files.writeString(source, program.substring(0, at) + m.to + program.substring(at + m.from.length()));
        String errors = run(List.of("javac", "-d", place.toString(), source.toString()));
        if (!Files.exists(place.resolve("TapeEngine.class"))) {
            return "does not compile:\n" + told + errors;
        }
        for (String name : names) {
            String path = place + ":" + tests;
            for (String line : run(List.of("java", "-cp", path, name)).split("\n")) {
                if (line.startsWith("\"" + m.sentence)) {
                    return "";
                }
            }
        }
        return "not seen:\n" + told;
    }

    private static String run(List<String> command) throws IOException, InterruptedException {
        Path printed = Files.createTempFile("mutant", ".txt");
        Process process = new ProcessBuilder(command).redirectErrorStream(true).redirectOutput(printed.toFile()).start();
        if (!process.waitFor(60, TimeUnit.SECONDS)) {
            process.destroyForcibly().waitFor();
        }
        String text = Files.readString(printed, java.nio.charset.StandardCharsets.ISO_8859_1);
        Files.delete(printed);
        return text;
    }
}
