import java.io.File;
import java.io.IOException;
import java.nio.file.Files;
import java.nio.file.Path;
import java.util.ArrayList;
import java.util.List;
import java.util.concurrent.ExecutorService;
import java.util.concurrent.Executors;
import java.util.concurrent.Future;
import java.util.concurrent.TimeUnit;
import java.util.regex.Matcher;
import java.util.regex.Pattern;
import javax.tools.JavaCompiler;
import javax.tools.ToolProvider;

/**
 * Breaks LetterCrew in one place at a time, and lists the breaks that no test sees. Not part of .ci/run: some breaks
 * change nothing that the document promises, and have to be looked at by hand.
 *
 * <p>Arguments: a folder to work in, the folder of the compiled tests, and the tests to run.
 */
public final class Mutants {
    private static final Path SOURCE = Path.of("src/main/java/LetterCrew.java");
    private static final int SECONDS = 30;
    /** What is looked for, and what is put there instead. */
    private static final String[][] SWAPS = {
        {" < ", " <= "}, {" <= ", " < "}, {" > ", " >= "}, {" >= ", " > "}, {" == ", " != "}, {" != ", " == "},
        {" < ", " >= "}, {" >= ", " < "}, {" > ", " <= "}, {" <= ", " > "},
        {" && ", " || "}, {" || ", " && "}, {" + ", " - "}, {" - ", " + "}, {" * ", " + "}, {" % ", " / "},
        {" & ", " | "}, {" | ", " & "}, {" ^ ", " | "}, {" << ", " >> "}, {"++", "--"}, {"--", "++"}, {" += ", " -= "},
        {" &= ", " |= "}, {"true", "false"}, {"false", "true"}, {"(!", "("}, {"return UNKNOWN", "return OUTSIDE"},
        {"return OUTSIDE", "return UNKNOWN"}, {"return STATE", "return FULL"}, {"return FULL", "return STATE"},
        {"return NONE", "return UNKNOWN"}, {", NONE)", ", 0)"}, {"return true", "return false"}};
    private static final Pattern NUMBER = Pattern.compile("(?<![\\w.'])\\d+(?![\\w.'])");
    private static final Pattern SIGN = Pattern.compile("'(.)'");
    private static final Pattern DEED = Pattern.compile("^\\s+(?!return|final|private|static|int |long |Box |Actor |break|case|default)[\\w.\\[\\]() +*,-]+( [+&|-]?= .*|\\(.*\\)|\\+\\+|--);$");

    private final Path room;
    private final String[] command;
    private final List<String> lines;

    private Mutants(String[] args) throws IOException {
        room = Path.of(args[0]);
        lines = Files.readAllLines(SOURCE);
        command = args;
    }

    public static void main(String[] args) throws Exception {
        new Mutants(args).run();
    }

    private void run() throws Exception {
        ExecutorService workers = Executors.newFixedThreadPool(Runtime.getRuntime().availableProcessors());
        List<Future<String>> answers = new ArrayList<>();
        for (int i = 0; i < lines.size(); i++) {
            for (String broken : breaksOf(lines.get(i))) {
                int line = i;
                int number = answers.size();
                answers.add(workers.submit(() -> lookAt(number, line, broken)));
            }
        }
        int left = 0;
        int notJava = 0;
        for (Future<String> answer : answers) {
            if (answer.get().equals("not Java")) {
                notJava++;
            } else if (!answer.get().isEmpty()) {
                left++;
                System.out.println(answer.get());
            }
        }
        workers.shutdown();
        System.out.println(answers.size() - notJava + " breaks, " + left + " that no test sees");
    }

    private static List<String> breaksOf(String line) {
        List<String> found = new ArrayList<>();
        String code = line.replaceAll("//.*", "");
        if (code.isBlank() || code.trim().startsWith("*") || code.trim().startsWith("/**")) {
            return found;
        }
        for (String[] swap : SWAPS) {
            for (int at = code.indexOf(swap[0]); at >= 0; at = code.indexOf(swap[0], at + 1)) {
                found.add(code.substring(0, at) + swap[1] + code.substring(at + swap[0].length()));
            }
        }
        Matcher m = NUMBER.matcher(code);
        while (m.find()) {
            long number = Long.parseLong(m.group());
            found.add(code.substring(0, m.start()) + (number + 1) + code.substring(m.end()));
            found.add(code.substring(0, m.start()) + (number - 1) + code.substring(m.end()));
        }
        m = SIGN.matcher(code);
        while (m.find()) {
            found.add(code.substring(0, m.start(1)) + (char) (m.group(1).charAt(0) + 1) + code.substring(m.end(1)));
            found.add(code.substring(0, m.start(1)) + (char) (m.group(1).charAt(0) - 1) + code.substring(m.end(1)));
        }
        if (DEED.matcher(code).matches()) {
            found.add("");
        }
        return found;
    }

    /** Empty if a test sees the break. */
    private String lookAt(int number, int line, String broken) throws Exception {
        Path folder = Files.createDirectories(room.resolve("m" + number));
        Path source = folder.resolve("LetterCrew.java");
        List<String> copy = new ArrayList<>(lines);
        copy.set(line, broken);
        Files.write(source, copy);
        JavaCompiler compiler = ToolProvider.getSystemJavaCompiler();
        File nowhere = new File("/dev/null");
        try (var out = Files.newOutputStream(nowhere.toPath())) {
            if (compiler.run(null, out, out, "-nowarn", "-d", folder.toString(), source.toString()) != 0) {
                return "not Java";
            }
        }
        for (int i = 2; i < command.length; i++) {
            Process process = new ProcessBuilder("java", "-XX:TieredStopAtLevel=1", "-XX:+UseSerialGC", "-cp",
                    folder + File.pathSeparator + command[1], command[i])
                    .redirectErrorStream(true).redirectOutput(nowhere).start();
            boolean hasEnded = process.waitFor(SECONDS, TimeUnit.SECONDS);
            if (!hasEnded) {
                process.destroyForcibly();
            }
            if (!hasEnded || process.exitValue() != 0) {
                return "";
            }
        }
        return "line " + (line + 1) + ": " + lines.get(line).trim() + "   ->   " + broken.trim();
    }
}
