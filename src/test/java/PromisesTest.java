import java.io.IOException;
import java.nio.file.Files;
import java.nio.file.Path;
import java.util.ArrayList;
import java.util.List;
import java.util.TreeMap;
import java.util.stream.Collectors;
import java.util.stream.Stream;

/**
 * Runs the tests under src/test/promises, one for each sentence of the document, each named by its promise's number;
 * Script says how they are written. Every word of the terms and of the promises must be said by a test.
 */
public final class PromisesTest {
    private static final Path TESTS = Path.of("src/test/promises");
    private static final Path DOCUMENT = Path.of("../shared/DOC.md");
    private static final int PROMISES = 23;

    private final List<Script> scripts = new ArrayList<>();
    private int wrong = 0;

    public static void main(String[] args) throws IOException {
        PromisesTest all = new PromisesTest();
        all.read();
        all.run();
        all.lookAtDocument();
        System.out.println("PromisesTest: " + all.scripts.size() + " tests, " + all.wrong + " wrong");
        if (all.wrong != 0) {
            System.exit(1);
        }
    }

    private void read() throws IOException {
        List<Path> files;
        try (Stream<Path> found = Files.list(TESTS)) {
            files = found.sorted().collect(Collectors.toList());
        }
        for (Path file : files) {
            read(file);
        }
    }

    private void read(Path file) throws IOException {
        int promise = Integer.parseInt(file.getFileName().toString().substring(0, 2));
        Script script = null;
        for (String line : Files.readAllLines(file)) {
            String row = line.replaceAll("(^|\\s+)# .*", "").trim();
            if (row.startsWith("test ")) {
                script = new Script(promise, row.substring(5));
                scripts.add(script);
            } else if (row.startsWith("says ") && script != null) {
                script.quotes.add(row.substring(5));
            } else if (!row.isEmpty() && script != null) {
                script.add(row);
            } else if (!row.isEmpty()) {
                fault(file + ": a row ahead of all tests: " + row);
            }
        }
    }

    private void run() {
        TreeMap<Integer, Integer> counts = new TreeMap<>();
        for (Script script : scripts) {
            counts.merge(script.promise, 1, Integer::sum);
            for (String text : script.run()) {
                fault("promise " + script.promise + ", " + script.title + ": " + text);
            }
        }
        for (int promise = 1; promise <= PROMISES; promise++) {
            if (!counts.containsKey(promise)) {
                fault("promise " + promise + " has no test");
            }
        }
        System.out.println("PromisesTest: tests by promise: " + counts);
    }

    private void lookAtDocument() throws IOException {
        if (!Files.exists(DOCUMENT)) {
            System.out.println("PromisesTest: there is no " + DOCUMENT + " to look at");
            return;
        }
        Document document = new Document(Files.readString(DOCUMENT));
        for (Script script : scripts) {
            for (String quote : script.quotes) {
                if (!document.mark(script.promise, quote)) {
                    fault("promise " + script.promise + ", " + script.title + ": the document does not say: " + quote);
                }
            }
        }
        for (String words : document.unmarked()) {
            fault("no test says: " + words);
        }
    }

    private void fault(String text) {
        wrong++;
        System.out.println("PromisesTest: " + text);
    }
}
