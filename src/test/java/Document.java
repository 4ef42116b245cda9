import java.util.ArrayList;
import java.util.Arrays;
import java.util.List;
import java.util.Map;
import java.util.TreeMap;
import java.util.regex.Matcher;
import java.util.regex.Pattern;

/** The parts of the document that tests must say: the terms (part 0), and each promise by its number. */
final class Document {
    private static final Pattern WORDS = Pattern.compile("[A-Za-z0-9]");
    private static final Pattern PROMISE =
            Pattern.compile("## Promise (\\d+):[^\n]*\n\\s*`[^`]*`:(.*?)(?=\n## )", Pattern.DOTALL);

    private static final class Part {
        final String text;
        final boolean[] isMarked;

        Part(String raw) {
            text = plain(raw);
            isMarked = new boolean[text.length()];
        }

        boolean mark(String quote) {
            int at = text.indexOf(quote);
            if (at >= 0) {
                Arrays.fill(isMarked, at, at + quote.length(), true);
            }
            return at >= 0;
        }

        List<String> unmarked() {
            List<String> found = new ArrayList<>();
            int from = 0;
            for (int i = 0; i <= text.length(); i++) {
                if (i == text.length() || isMarked[i]) {
                    String piece = text.substring(from, i);
                    if (WORDS.matcher(piece).find()) {
                        found.add(piece.trim());
                    }
                    from = i + 1;
                }
            }
            return found;
        }
    }

    private final Map<Integer, Part> parts = new TreeMap<>();

    Document(String text) {
        // The title tells what the terms and promises tell again, up to its own first term.
        String terms = between(text, "======== 1 ", "## The public face") + between(text, "## Terms", "Ahead of the calls");
        parts.put(0, new Part(terms));
        Matcher m = PROMISE.matcher(text);
        while (m.find()) {
            parts.put(Integer.parseInt(m.group(1)), new Part(m.group(2)));
        }
    }

    private static String between(String text, String from, String to) {
        int start = text.indexOf(from);
        int end = text.indexOf(to, Math.max(start, 0));
        return start < 0 || end < 0 ? "" : text.substring(start + from.length(), end);
    }

    private static String plain(String text) {
        return text.replace("```text", " ").replace("```", " ").replaceAll("======== \\d+ ", " ")
                .replaceAll("\\s+", " ");
    }

    /** Marks the words of a promise or, if they are not there, of the terms; false if they stand in neither. */
    boolean mark(int promise, String quote) {
        return (parts.containsKey(promise) && parts.get(promise).mark(quote)) || parts.get(0).mark(quote);
    }

    List<String> unmarked() {
        List<String> found = new ArrayList<>();
        for (Map.Entry<Integer, Part> part : parts.entrySet()) {
            for (String words : part.getValue().unmarked()) {
                found.add((part.getKey() == 0 ? "terms: " : "promise " + part.getKey() + ": ") + words);
            }
        }
        return found;
    }
}
