/** Compares answers with those that are due, and ends the test with exit code 1 if one is not. */
final class Due {
    private final String test;
    private int looked = 0;
    private int wrong = 0;

    Due(String test) {
        this.test = test;
    }

    void is(String call, long got, long want) {
        looked++;
        if (got != want) {
            wrong++;
            System.out.println(test + ": " + call + " answered " + got + ", due is " + want);
        }
    }

    void end() {
        System.out.println(test + ": " + looked + " answers, " + wrong + " wrong");
        if (wrong != 0 || looked == 0) {
            System.exit(1);
        }
    }

    /** A new object with the text on its page. */
    static LetterCrew page(String text) {
        LetterCrew x = new LetterCrew();
        write(x, text);
        return x;
    }

    /** A new object whose crew is the text. */
    static LetterCrew crew(String text) {
        LetterCrew x = page(text);
        if (x.crew() < 1) {
            throw new IllegalStateException("no crew: " + text);
        }
        return x;
    }

    static void write(LetterCrew x, String text) {
        for (char c : text.toCharArray()) {
            x.letter(c);
        }
    }
}
