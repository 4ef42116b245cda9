/** Promises 16 to 19: round, see, forget, drawn. */
public final class WouldTest {
    private static final int NONE = LetterCrew.NONE;
    private static final int UNKNOWN = LetterCrew.UNKNOWN;
    private static final int OUTSIDE = LetterCrew.OUTSIDE;
    private static final int STATE = LetterCrew.STATE;
    private static final int FULL = LetterCrew.FULL;
    private static final Due due = new Due("WouldTest");

    public static void main(String[] args) {
        roundOfSmallCrews();
        roundLooksAtLetters();
        roundLooksAtRaises();
        roundIsRefused();
        see();
        sorts();
        asks();
        forget();
        drawn();
        drawnIsRefused();
        due.end();
    }

    private static void round(String text, int lead, int beat) {
        LetterCrew x = Due.crew(text);
        due.is("16: round(0) of " + text, x.round(0), lead);
        due.is("16: round(1) of " + text, x.round(1), beat);
        due.is("16: nothing was done in " + text, x.count(3) + x.count(5) + x.count(6), 0);
        due.is("16: all stay up in " + text, x.count(1), x.count(0));
        due.is("16: count(10) of " + text, x.count(10), 2);
    }

    private static void roundOfSmallCrews() {
        round("a-;", 0, 1);
        round("a---;", 0, 3);
        round("a--,a---;", 0, 6);
        round("a*;", 0, 3);
        round("a*-;", 0, 4);
        round("ax;", 1, 1);
        round("a--x;", 3, 1);
        // Five letters come into the box, one in three ticks; then it is full.
        round("a--!01;", 15, 3);
        // Each third tick brings a letter, behind the turn of the one that takes it at the next.
        round("a***,m!01--;", 2, 9);
    }

    private static void roundLooksAtLetters() {
        LetterCrew x = Due.crew("a*,a!05;");
        x.send(0, 5);
        due.is("16: round(0), a letter from outside", x.round(0), 1);
        due.is("16: round(1), a letter from outside", x.round(1), 1);
        LetterCrew y = Due.crew("a*,a!05!04;");
        y.tick(1);
        y.fell(1);
        y.raise(1);
        due.is("16: round(0), a letter of another sign", y.round(0), 1);
        due.is("16: round(1), a letter of another sign", y.round(1), 2);
        // Two letters lie there, three more come after 2, 3 and 5 ticks.
        LetterCrew z = Due.crew("a-,a!00!01-;");
        z.tick(2);
        due.is("16: round(0), a box that fills", z.round(0), 5);
        due.is("16: round(1), a box that fills", z.round(1), 3);
        LetterCrew w = Due.crew("a-!03*,a--x;");
        w.tick(2);
        due.is("16: round(0), from a step behind", w.round(0), 1);
        due.is("16: round(1), from a step behind", w.round(1), 3);
    }

    private static void roundLooksAtRaises() {
        // What was raised four ticks ago is still looked at, what was raised before is not.
        LetterCrew x = Due.crew("b-,a-;01");
        x.fell(1);
        due.is("16: round(0), raised now", x.round(0), 5);
        due.is("16: round(1), raised now", x.round(1), 1);
        x.tick(3);
        due.is("16: round(0), raised three ticks ago", x.round(0), 2);
        x.tick(2);
        due.is("16: round(0), raised five ticks ago", x.round(0), 0);
        x.fell(1);
        x.tick(2);
        x.fell(1);
        due.is("16: round(0), raised two ticks ago and now", x.round(0), 5);
        // Raised at 1 and 2; at 3 the boss falls, too, and the latter is forgotten at 7.
        round("ax,b-;01", 7, 1);
        // Raised at 3, 6, 9, ..: at 8 only that two ticks ago is looked at, as at 5.
        round("a--x,b-;01", 5, 3);
    }

    private static void roundIsRefused() {
        LetterCrew x = new LetterCrew();
        due.is("16: round(2) without a crew", x.round(2), OUTSIDE);
        due.is("16: round(1) without a crew", x.round(1), STATE);
        LetterCrew y = Due.crew("a-;");
        due.is("16: round(-1)", y.round(-1), OUTSIDE);
        due.is("16: round(2)", y.round(2), OUTSIDE);
        for (int i = 1; i <= 6; i++) {
            due.is("16: round(0)", y.round(0), 0);
            due.is("16: count(10)", y.count(10), i);
        }
        due.is("16: round(0), told six times", y.round(0), STATE);
        due.is("16: round(2), told six times", y.round(2), OUTSIDE);
        due.is("16: count(10)", y.count(10), 6);
        // Three laps that have nothing in common but 4 * 7 * 5 ticks: more than 60.
        LetterCrew z = Due.crew("m*-,m**-,m--*;");
        due.is("16: round(0), none", z.round(0), NONE);
        due.is("16: round(1), none", z.round(1), NONE);
        due.is("16: count(10), none counts, too", z.count(10), 2);
        round("m*-,m*--,m*;", 0, 60);
        round("m*-,m*--,m*,ax;", NONE, NONE);
    }

    private static void see() {
        LetterCrew x = Due.crew("a-,a-;");
        due.is("17: see(2, 4, true)", x.see(2, 4, true), UNKNOWN);
        due.is("17: see(-1, 0, true)", x.see(-1, 0, true), UNKNOWN);
        due.is("17: see(0, 4, true)", x.see(0, 4, true), OUTSIDE);
        due.is("17: see(0, -1, true)", x.see(0, -1, true), OUTSIDE);
        due.is("17: count(7)", x.count(7), 0);
        for (int i = 1; i <= 6; i++) {
            due.is("17: see(.., 1, true)", x.see(i % 2, 1, true), i);
        }
        long before = x.digest();
        due.is("17: see(0, 0, true), six are seen", x.see(0, 0, true), FULL);
        due.is("17: see(0, 4, true), six are seen", x.see(0, 4, true), OUTSIDE);
        due.is("17: see(2, 0, true), six are seen", x.see(2, 0, true), UNKNOWN);
        due.is("17: digest() after refusals", x.digest(), before);
    }

    private static void sorts() {
        int[] could = {16, 7, 25, 4};
        for (int what = 0; what < 4; what++) {
            LetterCrew x = Due.crew("a-,b-;");
            x.see(0, what, true);
            x.see(1, what, false);
            due.is("17: sorts that could " + what, x.actor(0, 7), could[what]);
            due.is("17: sorts that could not " + what, x.actor(1, 7), 31 - could[what]);
            x.see(0, what, false);
            due.is("17: sorts that could and could not", x.actor(0, 7), 0);
            due.is("17: what to ask of none", x.actor(0, 8), NONE);
        }
    }

    private static void asks() {
        LetterCrew x = Due.crew("a-,a-,a-,a-;");
        due.is("17: ask, nothing seen", x.actor(0, 8), 1);
        x.see(0, 1, true);
        due.is("17: ask of 0, 1, 2", x.actor(0, 8), 2);
        x.see(1, 1, false);
        due.is("17: ask of 3, 4", x.actor(1, 8), 0);
        x.see(2, 2, false);
        due.is("17: ask of 1, 2", x.actor(2, 8), 3);
        x.see(3, 2, true);
        due.is("17: ask of 0, 3, 4", x.actor(3, 8), 0);
        x.see(3, 0, false);
        due.is("17: ask of 0, 3", x.actor(3, 8), 1);
        x.see(3, 1, false);
        due.is("17: ask of 3", x.actor(3, 8), 0);
    }

    private static void forget() {
        LetterCrew x = Due.crew("a-,a-;");
        x.see(0, 0, true);
        x.see(1, 3, true);
        due.is("18: forget()", x.forget(), 2);
        due.is("18: count(7)", x.count(7), 0);
        due.is("18: actor(0, 7)", x.actor(0, 7), 31);
        due.is("18: actor(1, 8)", x.actor(1, 8), 1);
        due.is("18: forget() again", x.forget(), 0);
        due.is("18: see(1, 3, true)", x.see(1, 3, true), 1);
        due.is("18: actor(0, 7)", x.actor(0, 7), 31);
    }

    private static void drawn() {
        LetterCrew x = Due.crew("a-;");
        long before = x.digest();
        // The seeds after 0: 12345, then 1406932606 by the rule; the letters stay in the box.
        due.is("19: drawn(1, 0, 2)", x.drawn(1, 0, 2), 1406932606);
        due.is("19: drawn(5, 0, 0)", x.drawn(5, 0, 0), 0);
        due.is("19: drawn(6, 0, 0)", x.drawn(6, 0, 0), 1);
        due.is("19: drawn(30, 0, 0)", x.drawn(30, 0, 0), 25);
        due.is("19: drawn(30, 0, 1)", x.drawn(30, 0, 1), 0);
        due.is("19: nothing was done", x.digest(), before);
        LetterCrew y = Due.crew("ax;");
        y.send(0, 1);
        // Its box with two letters is lost, then one letter a time, to one that is down.
        due.is("19: drawn(1, 9, 0)", y.drawn(1, 9, 0), 2);
        due.is("19: drawn(4, 9, 0)", y.drawn(4, 9, 0), 5);
        due.is("19: drawn(4, 9, 1)", y.drawn(4, 9, 1), 1);
        due.is("19: count(6)", y.count(6), 0);
        y.tick(1);
        due.is("19: drawn(4, 9, 0), lost since then alone", y.drawn(4, 9, 0), 4);
        due.is("19: drawn(4, 9, 1), down since then alone", y.drawn(4, 9, 1), 0);
        drawnGoesBySigns();
    }

    private static void drawnGoesBySigns() {
        for (int seed = 0; seed < 40; seed++) {
            LetterCrew x = Due.crew("a?3x,a?0x,a?7x;");
            long at = seed;
            LetterCrew real = Due.crew("a?3x,a?0x,a?7x;");
            int lost = 0;
            for (int i = 0; i < 8; i++) {
                at = (1103515245L * at + 12345L) & 0x7fffffffL;
                int actor = (int) (at / 65536 % 3);
                at = (1103515245L * at + 12345L) & 0x7fffffffL;
                int sign = (int) (at / 65536 % 8);
                if (real.send(actor, sign) < 0) {
                    lost++;
                }
                real.tick(1);
            }
            due.is("19: drawn(8, " + seed + ", 0)", x.drawn(8, seed, 0), lost + real.count(5));
            due.is("19: drawn(8, " + seed + ", 1)", x.drawn(8, seed, 1), real.count(6));
            due.is("19: drawn(8, " + seed + ", 2)", x.drawn(8, seed, 2), at);
        }
    }

    private static void drawnIsRefused() {
        LetterCrew x = new LetterCrew();
        due.is("19: drawn(0, 0, 0) without a crew", x.drawn(0, 0, 0), OUTSIDE);
        due.is("19: drawn(1, 0, 0) without a crew", x.drawn(1, 0, 0), STATE);
        LetterCrew y = Due.crew("a-;");
        due.is("19: drawn(0, 0, 0)", y.drawn(0, 0, 0), OUTSIDE);
        due.is("19: drawn(31, 0, 0)", y.drawn(31, 0, 0), OUTSIDE);
        due.is("19: drawn(1, -1, 0)", y.drawn(1, -1, 0), OUTSIDE);
        due.is("19: drawn(1, MIN, 0)", y.drawn(1, Integer.MIN_VALUE, 0), OUTSIDE);
        due.is("19: drawn(1, 0, 3)", y.drawn(1, 0, 3), OUTSIDE);
        due.is("19: drawn(1, 0, -1)", y.drawn(1, 0, -1), OUTSIDE);
        due.is("19: drawn(1, MAX, 2)", y.drawn(1, Integer.MAX_VALUE, 2), 288979989);
    }
}
