import java.util.ArrayList;
import java.util.List;

/**
 * A test of one sentence of the document: rows of calls, each with the answer that is due.
 *
 * <p>A row is a call ("send(0, 8)"), with " = " and its answer (a number, or the name of a constant; of digest()
 * "of" and all its numbers), perhaps with "5 * " ahead: so often. A call without an answer must not be refused.
 * Further rows: "page TEXT" writes a text on the page, "crew TEXT" reads it, too; "new" goes on with a new object;
 * "fault TEXT = 3" and "none TEXT" (it is no crew) look at a text, "is NAME = -1" at a constant. Behind "#" all is a
 * comment, but for that "#" that stands in a text.
 *
 * <p>That refusals change nothing, nor calls that only tell, is looked at in each test: an object on which they
 * were not called must go on alike.
 */
final class Script {
    private static final List<String> TELLING =
            List.of("fault", "actor", "box", "as", "drawn", "count", "digest");

    final int promise;
    final String title;
    final List<String> quotes = new ArrayList<>();
    private final List<String> rows = new ArrayList<>();
    private final List<String> faults = new ArrayList<>();
    private Caller x = new Caller();
    private List<String> deeds = new ArrayList<>();
    private boolean isChecked = false;

    Script(int itsPromise, String itsTitle) {
        promise = itsPromise;
        title = itsTitle;
    }

    void add(String row) {
        rows.add(row);
    }

    List<String> run() {
        for (String row : rows) {
            try {
                run(row);
            } catch (IllegalArgumentException e) {
                faults.add(row + ": " + e.getMessage());
            }
        }
        endObject();
        if (!isChecked || quotes.isEmpty()) {
            faults.add("it looks at nothing, or says no sentence");
        }
        return faults;
    }

    private void run(String row) {
        int space = row.indexOf(' ');
        String first = space < 0 ? row : row.substring(0, space);
        String rest = space < 0 ? "" : row.substring(space + 1).trim();
        switch (first) {
            case "new": endObject(); break;
            case "page": write(rest); break;
            case "crew": write(rest); call("crew()", null); break;
            case "fault": lookAtFault(rest); break;
            case "none": lookAtNone(rest); break;
            case "is": lookAtConstant(rest); break;
            default: callOften(row);
        }
    }

    private void write(String text) {
        for (char c : text.toCharArray()) {
            call("letter(" + (int) c + ")", null);
        }
    }

    private void lookAtFault(String textAndPlace) {
        String[] parts = textAndPlace.split(" = ");
        endObject();
        write(parts[0]);
        call("fault()", parts[1]);
    }

    private void lookAtNone(String text) {
        endObject();
        write(text);
        call("crew()", "STATE");
        call("count(0)", "0");
        call("count(8)", "" + text.length());
    }

    private void lookAtConstant(String nameAndNumber) {
        String[] parts = nameAndNumber.split(" = ");
        due("constant " + parts[0], constant(parts[0]), Long.parseLong(parts[1]));
    }

    private void callOften(String row) {
        String[] parts = row.split("\\s+=\\s+", 2);
        String call = parts[0].trim();
        int times = 1;
        if (call.contains("*")) {
            String[] often = call.split("\\*");
            times = Integer.parseInt(often[0].trim());
            call = often[1].trim();
        }
        for (int i = 0; i < times; i++) {
            call(call, parts.length == 2 ? parts[1].trim() : null);
        }
    }

    private void call(String call, String answer) {
        long got = x.answer(call);
        boolean isRefused = !call.startsWith("digest") && got <= LetterCrew.UNKNOWN;
        if (answer != null) {
            due(call, got, answer.startsWith("of ") ? digestOf(answer) : constant(answer));
        } else if (isRefused) {
            faults.add(call + " was refused: " + got);
        }
        if (x.calls > Caller.MOST_CALLS) {
            faults.add(call + " is a call too many");
        }
        if (!isRefused && !TELLING.contains(Caller.nameOf(call))) {
            deeds.add(call);
        }
    }

    private void due(String call, long got, long want) {
        isChecked = true;
        if (got != want) {
            faults.add(call + " answered " + got + ", due is " + want);
        }
    }

    static long constant(String text) {
        switch (text) {
            case "NONE": return LetterCrew.NONE;
            case "UNKNOWN": return LetterCrew.UNKNOWN;
            case "OUTSIDE": return LetterCrew.OUTSIDE;
            case "STATE": return LetterCrew.STATE;
            case "FULL": return LetterCrew.FULL;
            default: return Long.parseLong(text);
        }
    }

    private static long digestOf(String answer) {
        long h = 1399;
        for (String number : answer.substring(3).trim().split("\\s+")) {
            h = 31 * h + constant(number);
        }
        return h;
    }

    /** A twin that had only the deeds must be as this object is, and go on as it does. */
    private void endObject() {
        Caller twin = new Caller();
        for (String deed : deeds) {
            twin.answer(deed);
        }
        List<String> went = goOn(x);
        List<String> due = goOn(twin);
        for (int i = 0; i < due.size(); i++) {
            if (!went.get(i).equals(due.get(i))) {
                faults.add("a refused or a telling call changed something: later " + went.get(i)
                        + ", due is " + due.get(i));
                break;
            }
        }
        x = new Caller();
        deeds = new ArrayList<>();
    }

    private static List<String> goOn(Caller c) {
        List<String> told = new ArrayList<>();
        tell(c, told, "digest()", "fault()", "round(0)", "drawn(30, 5, 0)", "drawn(30, 6, 1)");
        for (int i = 0; i < 6; i++) {
            tell(c, told, "fell(" + i + ")", "digest()", "tick(1)", "digest()", "raise(" + i + ")", "digest()");
        }
        tell(c, told, "restore()", "digest()");
        for (int i = 0; i < 6; i++) {
            tell(c, told, "tick(1)", "fell(" + i + ")", "digest()");
        }
        tell(c, told, "crew()", "digest()", "drawn(30, 7, 0)");
        return told;
    }

    private static void tell(Caller c, List<String> told, String... calls) {
        for (String call : calls) {
            told.add(call + " answered " + c.answer(call));
        }
    }
}
