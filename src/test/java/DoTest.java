/** Promises 9 to 15: send, tick, fell, raise, tie, cut, be. */
public final class DoTest {
    private static final int NONE = LetterCrew.NONE;
    private static final int UNKNOWN = LetterCrew.UNKNOWN;
    private static final int OUTSIDE = LetterCrew.OUTSIDE;
    private static final int STATE = LetterCrew.STATE;
    private static final int FULL = LetterCrew.FULL;
    private static final Due due = new Due("DoTest");

    public static void main(String[] args) {
        send();
        tickIsRefused();
        tickEndsAtItsTime();
        tickWaits();
        tickTakesByKind();
        tickSends();
        tickFalls();
        fell();
        fellTellsTraps();
        fellAsksBosses();
        fellAsksEachBoss();
        bossForgetsByTime();
        raise();
        tie();
        cut();
        be();
        due.end();
    }

    private static void send() {
        LetterCrew x = Due.crew("a-,a-;");
        due.is("9: send(0, 0)", x.send(0, 0), 1);
        due.is("9: send(0, 8)", x.send(0, 8), 2);
        due.is("9: box(0, 1, 0)", x.box(0, 1, 0), 8);
        due.is("9: box(0, 1, 1)", x.box(0, 1, 1), NONE);
        due.is("9: send(1, 3)", x.send(1, 3), 1);
        due.is("9: send(0, 1)", x.send(0, 1), 3);
        due.is("9: send(0, 1)", x.send(0, 1), 4);
        due.is("9: send(0, 1)", x.send(0, 1), 5);
        long before = x.digest();
        due.is("9: send(0, 1) to a full box", x.send(0, 1), FULL);
        due.is("9: send(0, 9) to a full box", x.send(0, 9), OUTSIDE);
        due.is("9: send(0, -1)", x.send(0, -1), OUTSIDE);
        due.is("9: send(2, 9)", x.send(2, 9), UNKNOWN);
        due.is("9: send(-1, 0)", x.send(-1, 0), UNKNOWN);
        due.is("9: send(6, 0)", x.send(6, 0), UNKNOWN);
        due.is("9: digest() after refusals", x.digest(), before);
        x.fell(1);
        before = x.digest();
        due.is("9: send(1, 0) to one that is down", x.send(1, 0), STATE);
        due.is("9: send(1, 9) to one that is down", x.send(1, 9), OUTSIDE);
        due.is("9: nothing is lost by refusals", x.digest(), before);
    }

    private static void tickIsRefused() {
        LetterCrew x = new LetterCrew();
        due.is("10: tick(51) without a crew", x.tick(51), OUTSIDE);
        due.is("10: tick(0) without a crew", x.tick(0), OUTSIDE);
        due.is("10: tick(50) without a crew", x.tick(50), STATE);
        LetterCrew y = Due.crew("a-;");
        due.is("10: tick(-1)", y.tick(-1), OUTSIDE);
        due.is("10: tick(MAX)", y.tick(Integer.MAX_VALUE), OUTSIDE);
        due.is("10: count(3)", y.count(3), 0);
        due.is("10: tick(50)", y.tick(50), 50);
        due.is("10: count(3)", y.count(3), 50);
    }

    private static void tickEndsAtItsTime() {
        LetterCrew x = Due.crew("a-;");
        for (int i = 0; i < 199; i++) {
            due.is("10: tick(50)", x.tick(50), 50);
        }
        due.is("10: tick(50) above 9999", x.tick(50), FULL);
        due.is("10: count(3)", x.count(3), 9950);
        due.is("10: tick(48)", x.tick(48), 48);
        due.is("10: tick(2) above 9999", x.tick(2), FULL);
        due.is("10: tick(51) above 9999", x.tick(51), OUTSIDE);
        due.is("10: tick(1)", x.tick(1), 1);
        due.is("10: count(3)", x.count(3), 9999);
        due.is("10: tick(1) above 9999", x.tick(1), FULL);
        due.is("10: image()", x.image(), 9999);
        due.is("16: round(1) at the last time", x.round(1), 1);
        due.is("19: drawn(30, 1, 0) at the last time", x.drawn(30, 1, 0), 25);
    }

    private static void tickWaits() {
        LetterCrew x = Due.crew("a?2-;");
        x.send(0, 1);
        due.is("10: tick(1), waits", x.tick(1), 0);
        due.is("10: waited", x.actor(0, 3), 1);
        due.is("10: tick(1), waits", x.tick(1), 0);
        due.is("10: waited", x.actor(0, 3), 2);
        due.is("10: tick(1), late", x.tick(1), 1);
        due.is("10: waited", x.actor(0, 3), 0);
        due.is("10: step", x.actor(0, 2), 1);
        due.is("10: the other letter stays", x.actor(0, 4), 1);
        due.is("10: tick(2)", x.tick(2), 1);
        due.is("10: waited", x.actor(0, 3), 1);
        x.send(0, 2);
        due.is("10: tick(1), takes", x.tick(1), 1);
        due.is("10: waited", x.actor(0, 3), 0);
        due.is("10: box(0, 0, 0)", x.box(0, 0, 0), 1);
        due.is("10: step", x.actor(0, 2), 1);
        due.is("10: nothing is lost", x.count(5), 0);
    }

    private static void tickTakesByKind() {
        String[] kinds = {"a", "t", "b", "m", "h"};
        int[] leftOfOne = {2312, 2312, 2312, 21312, 2132};
        int[] leftOfAny = {1312, 1312, 1312, 21312, 2131};
        for (int kind = 0; kind < kinds.length; kind++) {
            due.is("10: " + kinds[kind] + " takes of one sign", signsLeft(kinds[kind] + "?1;"), leftOfOne[kind]);
            due.is("10: " + kinds[kind] + " takes of any", signsLeft(kinds[kind] + "*;"), leftOfAny[kind]);
            due.is("10: " + kinds[kind] + " takes none of a sign that is not there", signsLeft(kinds[kind] + "?7;"), 21312);
        }
        LetterCrew x = Due.crew("m*-;");
        x.send(0, 0);
        due.is("10: a mute one goes on when it is late", x.tick(3), 1);
        LetterCrew w = Due.crew("h?4;");
        w.send(0, 4);
        w.send(0, 5);
        due.is("10: the newest one may be the oldest of all", w.tick(1), 1);
        due.is("10: box(0, 0, 0)", w.box(0, 0, 0), 5);
        due.is("10: it is at its next step", x.actor(0, 2), 1);
        due.is("10: its letter stays", x.actor(0, 4), 1);
        LetterCrew y = Due.crew("a?8;");
        y.send(0, 8);
        due.is("10: sign 8 can be waited for", y.tick(1), 1);
        LetterCrew z = Due.crew("a?0;");
        z.send(0, 0);
        due.is("10: sign 0 can be waited for", z.tick(1), 1);
    }

    /** The signs in the box of an actor, as digits, that had 2, 1, 3, 1, 2 and did its step. */
    private static int signsLeft(String text) {
        LetterCrew x = Due.crew(text);
        int[] signs = {2, 1, 3, 1, 2};
        for (int sign : signs) {
            x.send(0, sign);
        }
        x.tick(1);
        int left = 0;
        for (int place = 0; place < x.actor(0, 4); place++) {
            left = left * 10 + x.box(0, place, 0);
        }
        return left;
    }

    private static void tickSends() {
        LetterCrew x = Due.crew("a!14,a*,a!15!00;");
        due.is("10: tick(1)", x.tick(1), 3);
        // 1 took what 0 had sent before its turn; what 2 sent came after it.
        due.is("10: box(1, 0, 0)", x.box(1, 0, 0), 5);
        due.is("10: box(1, 0, 1)", x.box(1, 0, 1), 2);
        due.is("10: actor(1, 4)", x.actor(1, 4), 1);
        due.is("10: tick(1)", x.tick(1), 3);
        due.is("10: box(1, 0, 0)", x.box(1, 0, 0), 4);
        due.is("10: box(0, 0, 1)", x.box(0, 0, 1), 2);
        LetterCrew y = Due.crew("a!00,a!16;");
        due.is("10: tick(7), sends to itself", y.tick(7), 14);
        due.is("10: actor(0, 4)", y.actor(0, 4), 5);
        due.is("10: lost by full boxes", y.count(5), 4);
        y.fell(0);
        due.is("10: lost with its box", y.count(5), 9);
        y.tick(1);
        due.is("10: one that is down sends none", y.count(5), 10);
        LetterCrew z = Due.crew("a!10,a-;");
        z.fell(1);
        z.tick(3);
        due.is("10: lost to one that is down", z.count(5), 3);
        due.is("10: its box is empty", z.actor(1, 4), 0);
    }

    private static void tickFalls() {
        LetterCrew x = Due.crew("ax-,a-;");
        due.is("10: tick(1), goes on, then falls", x.tick(1), 2);
        due.is("10: it is down", x.actor(0, 1), 0);
        due.is("10: its step", x.actor(0, 2), 1);
        due.is("10: tick(2)", x.tick(2), 2);
        due.is("10: its step stays", x.actor(0, 2), 1);
        LetterCrew y = Due.crew("a-,ax,b*;12");
        due.is("10: tick(1), raised after its turn", y.tick(1), 2);
        due.is("10: it is up", y.actor(1, 1), 1);
        LetterCrew z = Due.crew("ax-,a-,a-;01,12");
        due.is("10: tick(1), those who fell do no step", z.tick(1), 1);
        due.is("10: all are down", z.count(1), 0);
        LetterCrew w = Due.crew("bx,a*-;01");
        w.fell(1);
        due.is("10: tick(1), with the boss", w.tick(1), 1);
        due.is("10: both fell", w.count(1), 0);
        LetterCrew v = Due.crew("ax,a--,b-;01,12");
        due.is("10: tick(1), one raised before its turn does its step", v.tick(1), 3);
        due.is("10: it was down", v.actor(1, 5), 1);
        due.is("10: it is at its next step", v.actor(1, 2), 1);
    }

    private static void fell() {
        LetterCrew x = Due.crew("a--,m-,h-,a-,a-;01,12,34");
        x.send(2, 1);
        x.send(2, 2);
        x.send(0, 3);
        x.tick(1);
        due.is("11: fell(0)", x.fell(0), 3);
        due.is("11: count(1)", x.count(1), 2);
        due.is("11: count(5)", x.count(5), 3);
        due.is("11: count(6)", x.count(6), 3);
        due.is("11: its step stays", x.actor(0, 2), 1);
        due.is("11: its box is empty", x.actor(0, 4), 0);
        long before = x.digest();
        due.is("11: fell(0), it is down", x.fell(0), STATE);
        due.is("11: fell(5)", x.fell(5), UNKNOWN);
        due.is("11: fell(-1)", x.fell(-1), UNKNOWN);
        due.is("11: digest() after refusals", x.digest(), before);
        due.is("11: fell(4)", x.fell(4), 2);
    }

    private static void fellTellsTraps() {
        LetterCrew x = Due.crew("a-,t-,t-,a-;01,23,02");
        for (int i = 0; i < 5; i++) {
            x.send(2, i);
        }
        due.is("11: fell(0), traps stay up", x.fell(0), 1);
        due.is("11: box(1, 0, 0)", x.box(1, 0, 0), 8);
        due.is("11: box(1, 0, 1)", x.box(1, 0, 1), 0);
        due.is("11: lost to a full box", x.count(5), 1);
        due.is("11: fell(2), a trap falls itself", x.fell(2), 2);
        due.is("11: lost with its box", x.count(5), 6);
        due.is("11: fell(1)", x.fell(1), 1);
        LetterCrew y = Due.crew("t-,t-;01");
        y.fell(0);
        due.is("11: fell(1), nothing to one that is down", y.fell(1), 1);
        due.is("11: lost with its box", y.count(5), 1);
    }

    private static void fellAsksBosses() {
        LetterCrew x = Due.crew("b-,a*-;01");
        x.send(1, 1);
        x.send(1, 2);
        x.tick(1);
        due.is("11: fell(1), it is raised", x.fell(1), 1);
        int[] facts = {0, 1, 0, 0, 0, 1};
        for (int what = 0; what < facts.length; what++) {
            due.is("11: actor(1, " + what + ")", x.actor(1, what), facts[what]);
        }
        due.is("11: lost with its box", x.count(5), 1);
        due.is("11: fell(1), it is raised again", x.fell(1), 1);
        due.is("11: fell(1), too often, the boss falls", x.fell(1), 2);
        due.is("11: count(1)", x.count(1), 0);
        // 1 is raised by 0, yet its further links are gone through, and 2 takes it down again.
        LetterCrew y = Due.crew("b-,a-,a-;01,12");
        due.is("11: fell(1)", y.fell(1), 3);
        due.is("11: actor(1, 1)", y.actor(1, 1), 1);
        due.is("11: actor(2, 1)", y.actor(2, 1), 0);
        due.is("11: fell(1), the boss comes behind the row", y.fell(1), 2);
        due.is("11: count(1)", y.count(1), 0);
        LetterCrew z = Due.crew("b-,b-;01");
        for (int i = 0; i < 2; i++) {
            due.is("11: fell(1), bosses raise each other", z.fell(1), 1);
            due.is("11: fell(0), bosses raise each other", z.fell(0), 1);
        }
        due.is("11: fell(0), both have raised too often", z.fell(0), 2);
    }

    private static void fellAsksEachBoss() {
        // Both bosses raise it each time, the second one though it is up again.
        LetterCrew x = Due.crew("a-,b-,b-,a-,a-;01,02,13,24");
        x.fell(0);
        x.fell(0);
        due.is("11: count(1)", x.count(1), 5);
        due.is("11: fell(3), 1 has raised twice, and 2 too", x.fell(3), 5);
        due.is("11: count(1)", x.count(1), 0);
        LetterCrew y = Due.crew("a-,b-,b-;01,02");
        y.fell(0);
        y.fell(0);
        y.be(2, 2);
        // 1 comes behind the row, 2 raises 0; then 1 is down, and 0 with it, and 2 raises that again.
        due.is("11: fell(0)", y.fell(0), 3);
        due.is("11: actor(0, 1)", y.actor(0, 1), 1);
        due.is("11: actor(1, 1)", y.actor(1, 1), 0);
        due.is("11: fell(0), 2 raised twice", y.fell(0), 2);
    }

    private static void bossForgetsByTime() {
        LetterCrew x = Due.crew("b-,a-;01");
        x.tick(1);
        x.fell(1);
        x.tick(2);
        x.fell(1);
        x.tick(2);
        x.image();
        due.is("11: fell(1) at 5, raised at 1 and 3", x.fell(1), 2);
        x.restore();
        x.tick(1);
        due.is("11: fell(1) at 6", x.fell(1), 1);
        x.image();
        due.is("11: fell(1) at 6, raised at 3 and 6", x.fell(1), 2);
        x.restore();
        x.tick(1);
        due.is("11: fell(1) at 7, raised at 3 and 6", x.fell(1), 2);
        x.restore();
        x.tick(2);
        due.is("11: fell(1) at 8, raised at 6", x.fell(1), 1);
        LetterCrew w = Due.crew("b-,a-;01");
        w.fell(1);
        w.fell(1);
        w.tick(4);
        w.image();
        due.is("11: fell(1) at 4, raised twice at 0", w.fell(1), 2);
        w.restore();
        w.tick(1);
        due.is("11: fell(1) at 5, raised twice at 0", w.fell(1), 1);
        LetterCrew y = Due.crew("b-,a-;01");
        y.fell(1);
        y.fell(1);
        y.fell(0);
        y.raise(0);
        y.raise(1);
        due.is("11: fell(1), a raised boss does not forget", y.fell(1), 2);
        LetterCrew z = Due.crew("bx,b---;01");
        z.tick(1);
        due.is("11: raised within a tick at 1", z.actor(0, 1), 1);
        z.tick(1);
        due.is("11: raised within a tick at 2", z.actor(0, 1), 1);
        z.tick(1);
        due.is("11: not raised at 3", z.count(1), 0);
    }

    private static void raise() {
        LetterCrew x = Due.crew("a*-,b-,a-;12");
        x.send(0, 1);
        x.tick(2);
        x.tick(1);
        x.fell(0);
        x.fell(1);
        due.is("12: raise(0)", x.raise(0), 1);
        int[] facts = {0, 1, 0, 0, 0, 1};
        for (int what = 0; what < facts.length; what++) {
            due.is("12: actor(0, " + what + ")", x.actor(0, what), facts[what]);
        }
        due.is("12: raise(2)", x.raise(2), 2);
        long before = x.digest();
        due.is("12: raise(0), it is up", x.raise(0), STATE);
        due.is("12: raise(3)", x.raise(3), UNKNOWN);
        due.is("12: raise(-1)", x.raise(-1), UNKNOWN);
        due.is("12: digest() after refusals", x.digest(), before);
        due.is("12: raise(1)", x.raise(1), 3);
        LetterCrew y = Due.crew("a*;");
        y.tick(2);
        y.fell(0);
        due.is("12: waited stays while it is down", y.actor(0, 3), 2);
        y.raise(0);
        due.is("12: waited is 0 when it is raised", y.actor(0, 3), 0);
    }

    private static void tie() {
        LetterCrew x = Due.crew("a-,a-,a-,a-,a-;");
        due.is("13: tie(0, 1)", x.tie(0, 1), 1);
        due.is("13: tie(0, 1), there is such", x.tie(0, 1), STATE);
        due.is("13: tie(1, 0), there is such", x.tie(1, 0), STATE);
        due.is("13: tie(2, 0)", x.tie(2, 0), 2);
        due.is("13: tie(0, 3)", x.tie(0, 3), 3);
        due.is("13: tie(4, 0)", x.tie(4, 0), 4);
        due.is("13: tie(1, 2)", x.tie(1, 2), 5);
        due.is("13: tie(1, 3)", x.tie(1, 3), 6);
        long before = x.digest();
        due.is("13: tie(1, 4), there are six", x.tie(1, 4), FULL);
        due.is("13: tie(3, 1), there is such", x.tie(3, 1), STATE);
        due.is("13: tie(1, 1)", x.tie(1, 1), UNKNOWN);
        due.is("13: tie(5, 0)", x.tie(5, 0), UNKNOWN);
        due.is("13: tie(0, 5)", x.tie(0, 5), UNKNOWN);
        due.is("13: tie(-1, 0)", x.tie(-1, 0), UNKNOWN);
        due.is("13: tie(-1, -1)", x.tie(-1, -1), UNKNOWN);
        due.is("13: digest() after refusals", x.digest(), before);
        due.is("13: fell(4)", x.fell(4), 5);
        // The trap gets its letters in the order of the links of 1.
        LetterCrew y = Due.crew("t-,a-,a-,a-;20,30");
        y.tie(1, 3);
        y.tie(2, 1);
        due.is("13: fell(1)", y.fell(1), 3);
        due.is("13: box(0, 0, 1)", y.box(0, 0, 1), 3);
        due.is("13: box(0, 1, 1)", y.box(0, 1, 1), 2);
    }

    private static void cut() {
        LetterCrew x = Due.crew("a-,t-,t-,t-;10,02,03");
        due.is("14: cut(0, 2)", x.cut(0, 2), 2);
        due.is("14: cut(0, 2), there is none such", x.cut(0, 2), STATE);
        due.is("14: cut(0, 0)", x.cut(0, 0), STATE);
        due.is("14: cut(1, 2)", x.cut(1, 2), STATE);
        due.is("14: cut(0, 4)", x.cut(0, 4), UNKNOWN);
        due.is("14: cut(4, 0)", x.cut(4, 0), UNKNOWN);
        due.is("14: cut(-1, -1)", x.cut(-1, -1), UNKNOWN);
        due.is("14: count(2)", x.count(2), 2);
        due.is("14: actor(0, 9)", x.actor(0, 9), 2);
        due.is("14: actor(2, 9)", x.actor(2, 9), 0);
        x.fell(0);
        due.is("14: actor(1, 4)", x.actor(1, 4), 1);
        due.is("14: actor(2, 4)", x.actor(2, 4), 0);
        due.is("14: actor(3, 4)", x.actor(3, 4), 1);
        due.is("14: cut(0, 1), either way about", x.cut(0, 1), 1);
        due.is("14: cut(3, 0)", x.cut(3, 0), 0);
        due.is("14: tie(0, 2), after it was cut", x.tie(0, 2), 1);
        LetterCrew y = Due.crew("t-,a-,a-,a-,a-;12,13,14,20,30,40");
        y.cut(1, 2);
        y.tie(1, 2);
        due.is("14: fell(1)", y.fell(1), 4);
        int[] order = {3, 4, 2};
        for (int place = 0; place < 3; place++) {
            due.is("14: box(0, " + place + ", 1)", y.box(0, place, 1), order[place]);
        }
    }

    private static void be() {
        LetterCrew x = Due.crew("b*-,a-;01");
        x.send(0, 5);
        x.send(0, 5);
        x.tick(1);
        x.fell(1);
        x.fell(1);
        due.is("15: be(0, 3)", x.be(0, 3), 2);
        int[] facts = {3, 1, 1, 0, 1, 0, 2, 31, 1, 1};
        for (int what = 0; what < facts.length; what++) {
            due.is("15: actor(0, " + what + ")", x.actor(0, what), facts[what]);
        }
        long before = x.digest();
        due.is("15: be(0, 5)", x.be(0, 5), OUTSIDE);
        due.is("15: be(0, -1)", x.be(0, -1), OUTSIDE);
        due.is("15: be(2, 5)", x.be(2, 5), UNKNOWN);
        due.is("15: be(-1, 0)", x.be(-1, 0), UNKNOWN);
        due.is("15: digest() after refusals", x.digest(), before);
        due.is("15: be(0, 2)", x.be(0, 2), 3);
        due.is("15: fell(1), when it raised is forgotten", x.fell(1), 1);
        due.is("15: fell(1)", x.fell(1), 1);
        due.is("15: fell(1)", x.fell(1), 2);
        due.is("15: be(0, 4), it is down", x.be(0, 4), 2);
        due.is("15: actor(0, 1), it stays down", x.actor(0, 1), 0);
        due.is("15: be(0, 0)", x.be(0, 0), 4);
        due.is("15: be(0, 1)", x.be(0, 1), 0);
        due.is("15: actor(0, 0)", x.actor(0, 0), 1);
        LetterCrew y = Due.crew("a?1;");
        y.send(0, 1);
        y.send(0, 2);
        y.send(0, 1);
        y.be(0, 4);
        y.tick(1);
        due.is("15: a hasty one takes the newest", y.box(0, 0, 0), 1);
    }
}
