import java.io.IOException;
import java.lang.reflect.Method;
import java.lang.reflect.Modifier;
import java.nio.file.Files;
import java.nio.file.Path;
import java.util.regex.Matcher;
import java.util.regex.Pattern;

/** That the examples of README.md answer what stands behind them, and that its table has each call of the face. */
public final class ReadmeTest {
    private static final Path README = Path.of("README.md");
    private static final Pattern BLOCK = Pattern.compile("```java\n(.*?)```", Pattern.DOTALL);
    private static final Pattern TEXT = Pattern.compile("for \\(char c : \"([^\"]*)\"\\.toCharArray\\(\\)\\) \\{");
    private static final Pattern ROW = Pattern.compile("x\\.(\\w+\\([^)]*\\));\\s*// (-?\\w+)(:.*)?");

    private final Due due = new Due("ReadmeTest");
    private Caller x = new Caller();

    public static void main(String[] args) throws IOException {
        String text = Files.readString(README);
        ReadmeTest test = new ReadmeTest();
        Matcher block = BLOCK.matcher(text);
        int blocks = 0;
        while (block.find()) {
            blocks++;
            block.group(1).lines().map(String::trim).forEach(test::look);
        }
        test.due.is("how many examples there are", Math.min(blocks, 1), 1);
        test.lookForCalls(text);
        test.due.end();
    }

    private void look(String line) {
        Matcher text = TEXT.matcher(line);
        Matcher row = ROW.matcher(line);
        if (line.equals("LetterCrew x = new LetterCrew();")) {
            x = new Caller();
        } else if (text.matches()) {
            text.group(1).chars().forEach(code -> x.answer("letter(" + code + ")"));
        } else if (row.matches()) {
            due.is(row.group(1), x.answer(row.group(1)), Script.constant(row.group(2)));
        } else if (!line.isEmpty() && !line.equals("x.letter(c);") && !line.equals("}")) {
            due.is("a line without an answer: " + line, 0, 1);
        }
    }

    private void lookForCalls(String text) {
        for (Method m : LetterCrew.class.getDeclaredMethods()) {
            if (Modifier.isPublic(m.getModifiers())) {
                due.is("whether the table has " + m.getName(), text.contains("| `" + m.getName() + "(") ? 1 : 0, 1);
            }
        }
    }
}
