import java.util.Random;

/** Runs of calls by fixed seeds: LetterCrew must answer as PlainModel does, and be as it is after each call. */
public final class RandomRunsTest {
    private static final int RUNS = 3000;
    private static final int CALLS = 250;

    private final Random random;
    private final LetterCrew x = new LetterCrew();
    private final PlainModel model = new PlainModel();
    private final StringBuilder run = new StringBuilder();
    private boolean wrong = false;

    private RandomRunsTest(long seed) {
        random = new Random(seed);
    }

    public static void main(String[] args) {
        int wrongRuns = 0;
        for (int seed = 0; seed < RUNS && wrongRuns < 3; seed++) {
            RandomRunsTest test = new RandomRunsTest(seed);
            test.go();
            if (test.wrong) {
                wrongRuns++;
                System.out.println("run " + seed + ":\n" + test.run);
            }
        }
        System.out.println("RandomRunsTest: " + RUNS + " runs, " + wrongRuns + " wrong");
        if (wrongRuns != 0) {
            System.exit(1);
        }
    }

    private void go() {
        if (random.nextInt(10) > 0) {
            write(crewText());
            due("crew()", x.crew(), model.crew());
        }
        for (int i = 0; i < CALLS && !wrong; i++) {
            call();
            due("digest()", x.digest(), model.digest());
        }
    }

    private void due(String call, long got, long want) {
        run.append("  ").append(call).append(" -> ").append(got).append('\n');
        if (got != want) {
            run.append("  due is ").append(want).append('\n');
            wrong = true;
        }
    }

    private void write(String text) {
        for (char c : text.toCharArray()) {
            due("letter(" + (int) c + ")", x.letter(c), model.letter(c));
        }
    }

    /** Mostly from..to, now and then one beyond, or far out. */
    private int some(int from, int to) {
        int dice = random.nextInt(60);
        if (dice == 0) {
            return from - 1;
        }
        if (dice == 1) {
            return to + 1;
        }
        if (dice == 2) {
            return random.nextInt();
        }
        return from + random.nextInt(to - from + 1);
    }

    private int anyActor() {
        return some(0, Math.max(0, model.count(0) - 1));
    }

    private String crewText() {
        int actors = 1 + random.nextInt(6);
        StringBuilder text = new StringBuilder();
        for (int i = 0; i < actors; i++) {
            text.append(i == 0 ? "" : ",").append("aatbbmh".charAt(random.nextInt(7)));
            int steps = 1 + random.nextInt(3);
            for (int step = 0; step < steps; step++) {
                text.append(stepText(actors));
            }
        }
        text.append(';');
        PlainModel check = new PlainModel();
        check(check, text.toString());
        int tries = random.nextInt(12);
        for (int i = 0; i < tries; i++) {
            int length = text.length();
            String comma = text.charAt(length - 1) == ';' ? "" : ",";
            text.append(comma).append(random.nextInt(actors)).append(random.nextInt(actors));
            if (check(check, text.toString()) < text.length()) {
                text.setLength(length);
            }
        }
        return text.toString();
    }

    private static int check(PlainModel model, String text) {
        model.blank();
        for (char c : text.toCharArray()) {
            model.letter(c);
        }
        return model.fault();
    }

    private String stepText(int actors) {
        switch (random.nextInt(9)) {
            case 0:
            case 1: return "?" + (random.nextInt(3) == 0 ? 8 : random.nextInt(4));
            case 2: return "*";
            case 3:
            case 4:
            case 5: return "!" + random.nextInt(actors) + (random.nextInt(9) == 0 ? 7 : random.nextInt(4));
            case 6: return "-";
            default: return random.nextInt(2) == 0 ? "x" : "-";
        }
    }

    /** A text that is a crew but for one letter, so that faults of all sorts come. */
    private String brokenText() {
        StringBuilder text = new StringBuilder(crewText());
        int place = random.nextInt(text.length());
        char c = "atbmhx?*!-,;0123456789 q".charAt(random.nextInt(24));
        switch (random.nextInt(4)) {
            case 0: text.setCharAt(place, c); break;
            case 1: text.insert(place, c); break;
            case 2: text.deleteCharAt(place); break;
            default: text.setLength(place);
        }
        return text.toString();
    }

    private void call() {
        int dice = random.nextInt(100);
        if (dice < 12) {
            callOfPage();
        } else if (dice < 45) {
            callOfDeeds();
        } else if (dice < 70) {
            callOfLinks();
        } else if (dice < 85) {
            callOfGuesses();
        } else {
            callOfFacts();
        }
    }

    private void callOfPage() {
        switch (random.nextInt(12)) {
            case 0: {
                int code = some(32, 126);
                due("letter(" + code + ")", x.letter(code), model.letter(code));
                break;
            }
            case 1:
                due("blank()", x.blank(), model.blank());
                break;
            case 2:
                due("blank()", x.blank(), model.blank());
                write(crewText());
                due("fault()", x.fault(), model.fault());
                due("crew()", x.crew(), model.crew());
                break;
            case 3:
                due("crew()", x.crew(), model.crew());
                break;
            case 4:
                due("fault()", x.fault(), model.fault());
                break;
            default:
                due("blank()", x.blank(), model.blank());
                write(brokenText());
                due("fault()", x.fault(), model.fault());
        }
    }

    private void callOfDeeds() {
        int actor = anyActor();
        switch (random.nextInt(6)) {
            case 0:
            case 1: {
                int sign = some(0, 8);
                due("send(" + actor + ", " + sign + ")", x.send(actor, sign), model.send(actor, sign));
                break;
            }
            case 2:
            case 3: {
                int times = random.nextInt(20) == 0 ? some(1, 50) : some(1, 3);
                due("tick(" + times + ")", x.tick(times), model.tick(times));
                break;
            }
            case 4:
                due("fell(" + actor + ")", x.fell(actor), model.fell(actor));
                break;
            default:
                due("raise(" + actor + ")", x.raise(actor), model.raise(actor));
        }
    }

    private void callOfLinks() {
        int one = anyActor();
        int other = anyActor();
        switch (random.nextInt(4)) {
            case 0:
                due("tie(" + one + ", " + other + ")", x.tie(one, other), model.tie(one, other));
                break;
            case 1:
                due("cut(" + one + ", " + other + ")", x.cut(one, other), model.cut(one, other));
                break;
            case 2: {
                int kind = some(0, 4);
                due("be(" + one + ", " + kind + ")", x.be(one, kind), model.be(one, kind));
                break;
            }
            default:
                due("raise(" + one + ")", x.raise(one), model.raise(one));
        }
    }

    private void callOfGuesses() {
        int actor = anyActor();
        switch (random.nextInt(8)) {
            case 0: {
                int what = some(0, 1);
                due("round(" + what + ")", x.round(what), model.round(what));
                break;
            }
            case 1:
            case 2: {
                int what = some(0, 3);
                boolean could = random.nextBoolean();
                due("see(" + actor + ", " + what + ", " + could + ")",
                        x.see(actor, what, could), model.see(actor, what, could));
                break;
            }
            case 3:
                due("forget()", x.forget(), model.forget());
                break;
            case 4:
                due("image()", x.image(), model.image());
                break;
            case 5:
                due("restore()", x.restore(), model.restore());
                break;
            default: {
                int times = some(1, 30);
                int seed = random.nextInt(20) == 0 ? -1 : random.nextInt() & Integer.MAX_VALUE;
                int what = some(0, 2);
                due("drawn(" + times + ", " + seed + ", " + what + ")",
                        x.drawn(times, seed, what), model.drawn(times, seed, what));
            }
        }
    }

    private void callOfFacts() {
        int actor = anyActor();
        switch (random.nextInt(4)) {
            case 0: {
                int what = some(0, 9);
                due("actor(" + actor + ", " + what + ")", x.actor(actor, what), model.actor(actor, what));
                break;
            }
            case 1: {
                int place = some(0, 2);
                int what = some(0, 1);
                due("box(" + actor + ", " + place + ", " + what + ")",
                        x.box(actor, place, what), model.box(actor, place, what));
                break;
            }
            case 2: {
                int kind = some(0, 4);
                due("as(" + actor + ", " + kind + ")", x.as(actor, kind), model.as(actor, kind));
                break;
            }
            default: {
                int what = some(0, 10);
                due("count(" + what + ")", x.count(what), model.count(what));
            }
        }
    }
}
