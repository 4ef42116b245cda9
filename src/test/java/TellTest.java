/** Promises 6 to 8, 20 to 23: actor, box, as, image, restore, count, digest. */
public final class TellTest {
    private static final int NONE = LetterCrew.NONE;
    private static final int UNKNOWN = LetterCrew.UNKNOWN;
    private static final int OUTSIDE = LetterCrew.OUTSIDE;
    private static final int STATE = LetterCrew.STATE;
    private static final Due due = new Due("TellTest");

    public static void main(String[] args) {
        actor();
        box();
        as();
        imageAndRestore();
        imageKeepsRaises();
        count();
        digest();
        due.end();
    }

    private static void actor() {
        LetterCrew x = Due.crew("h?1-,a!03,ax;02,21");
        x.send(0, 4);
        x.see(0, 0, true);
        x.tick(1);
        // Actor 2 falls, and with it 0 and 1; the letter of 1 came to 0 before.
        int[] first = {4, 0, 0, 1, 0, 1, 2, 16, 0, 1};
        int[] third = {0, 0, 0, 0, 0, 1, 1, 31, 1, 2};
        for (int what = 0; what < 10; what++) {
            due.is("6: actor(0, " + what + ")", x.actor(0, what), first[what]);
            due.is("6: actor(2, " + what + ")", x.actor(2, what), third[what]);
        }
        due.is("6: actor(-1, 0)", x.actor(-1, 0), UNKNOWN);
        due.is("6: actor(3, 0)", x.actor(3, 0), UNKNOWN);
        due.is("6: actor(3, 10)", x.actor(3, 10), UNKNOWN);
        due.is("6: actor(MAX, MAX)", x.actor(Integer.MAX_VALUE, Integer.MAX_VALUE), UNKNOWN);
        due.is("6: actor(0, 10)", x.actor(0, 10), OUTSIDE);
        due.is("6: actor(0, -1)", x.actor(0, -1), OUTSIDE);
        due.is("6: actor(0, MIN)", x.actor(0, Integer.MIN_VALUE), OUTSIDE);
    }

    private static void box() {
        LetterCrew x = Due.crew("a-,a!07;");
        x.send(0, 8);
        x.tick(1);
        x.send(0, 0);
        int[] signs = {8, 7, 0};
        int[] senders = {NONE, 1, NONE};
        for (int place = 0; place < 3; place++) {
            due.is("7: box(0, " + place + ", 0)", x.box(0, place, 0), signs[place]);
            due.is("7: box(0, " + place + ", 1)", x.box(0, place, 1), senders[place]);
        }
        due.is("7: box(0, 3, 0)", x.box(0, 3, 0), UNKNOWN);
        due.is("7: box(0, -1, 0)", x.box(0, -1, 0), UNKNOWN);
        due.is("7: box(1, 0, 0)", x.box(1, 0, 0), UNKNOWN);
        due.is("7: box(2, 0, 0)", x.box(2, 0, 0), UNKNOWN);
        due.is("7: box(-1, 0, 2)", x.box(-1, 0, 2), UNKNOWN);
        due.is("7: box(0, 3, 2)", x.box(0, 3, 2), UNKNOWN);
        due.is("7: box(0, MAX, 2)", x.box(0, Integer.MAX_VALUE, 2), UNKNOWN);
        due.is("7: box(0, 0, 2)", x.box(0, 0, 2), OUTSIDE);
        due.is("7: box(0, 0, -1)", x.box(0, 0, -1), OUTSIDE);
    }

    private static void as() {
        LetterCrew x = Due.crew("a-,t-,b-,m-,h-;");
        for (int actor = 0; actor < 5; actor++) {
            for (int kind = 0; kind < 5; kind++) {
                boolean is = kind == 0 || kind == actor || (actor == 2 && kind == 1);
                due.is("8: as(" + actor + ", " + kind + ")", x.as(actor, kind), is ? actor : NONE);
            }
        }
        due.is("8: as(5, 0)", x.as(5, 0), UNKNOWN);
        due.is("8: as(-1, 5)", x.as(-1, 5), UNKNOWN);
        due.is("8: as(0, 5)", x.as(0, 5), OUTSIDE);
        due.is("8: as(0, -1)", x.as(0, -1), OUTSIDE);
    }

    private static void imageAndRestore() {
        LetterCrew x = Due.crew("a?1x,t-,h*;01");
        due.is("21: restore() without an image", x.restore(), STATE);
        x.send(0, 3);
        x.send(2, 6);
        x.send(2, 7);
        x.send(2, 5);
        x.see(1, 3, false);
        x.tick(2);
        x.fell(1);
        due.is("20: image()", x.image(), 2);
        long then = x.digest();
        x.raise(1);
        x.be(2, 0);
        x.tie(1, 2);
        x.cut(0, 1);
        x.forget();
        x.send(0, 1);
        x.tick(5);
        due.is("21: restore()", x.restore(), 2);
        due.is("21: digest() after restore()", x.digest(), then);
        due.is("21: box(2, 0, 0) after restore()", x.box(2, 0, 0), 6);
        restoreBringsBack();
        x.tick(4);
        due.is("21: restore() again", x.restore(), 2);
        due.is("21: digest() after restore() again", x.digest(), then);
        x.tick(1);
        due.is("20: image() again", x.image(), 3);
        x.tick(1);
        due.is("21: restore() of the latest", x.restore(), 3);
        Due.write(x, "a-;");
        x.round(0);
        due.is("21: restore() with a page", x.restore(), 3);
        due.is("21: count(8), the page stays", x.count(8), 3);
        due.is("21: count(10), told rounds stay", x.count(10), 1);
        x.crew();
        due.is("21: restore(), another crew", x.restore(), STATE);
        due.is("20: image() of another crew", x.image(), 0);
        due.is("21: restore() of another crew", x.restore(), 0);
        due.is("21: count(9)", x.count(9), 2);
    }

    private static void restoreBringsBack() {
        LetterCrew x = Due.crew("a-,t!03--,a-;01,12");
        x.send(0, 1);
        x.tick(1);
        x.see(2, 0, true);
        x.image();
        long then = x.digest();
        x.fell(0);
        x.raise(0);
        x.send(0, 7);
        x.send(0, 8);
        x.fell(2);
        x.tick(1);
        x.forget();
        x.see(1, 3, true);
        x.cut(0, 1);
        x.tie(2, 0);
        x.restore();
        due.is("21: digest() after restore()", x.digest(), then);
        due.is("21: box(0, 0, 0) after restore()", x.box(0, 0, 0), 1);
        due.is("21: box(0, 1, 1) after restore()", x.box(0, 1, 1), 1);
        due.is("21: actor(1, 2) after restore()", x.actor(1, 2), 1);
        due.is("21: actor(2, 7) after restore()", x.actor(2, 7), 16);
        due.is("21: cut(1, 0) after restore()", x.cut(1, 0), 1);
        due.is("21: cut(2, 1) after restore()", x.cut(2, 1), 0);
    }

    private static void imageKeepsRaises() {
        LetterCrew x = Due.crew("b-,a-;01");
        x.fell(1);
        x.fell(1);
        x.image();
        x.tick(5);
        due.is("20: fell(1), the boss may raise again", x.fell(1), 1);
        x.restore();
        due.is("20: fell(1), the boss may not raise", x.fell(1), 2);
        x.restore();
        x.be(0, 2);
        x.restore();
        due.is("20: fell(1), the boss may still not raise", x.fell(1), 2);
    }

    private static void count() {
        LetterCrew x = Due.crew("a!11,a-,ax,a-;01,03,23");
        x.tick(2);
        x.see(3, 0, false);
        x.send(1, 2);
        x.round(0);
        x.round(1);
        Due.write(x, "zz");
        // The first TICK takes 2, 3, 0 and 1 down; what 0 sent is lost then.
        x.raise(1);
        x.send(1, 2);
        x.send(1, 3);
        int[] counts = {4, 1, 3, 2, 2, 1, 4, 1, 2, 1, 2};
        for (int what = 0; what < counts.length; what++) {
            due.is("22: count(" + what + ")", x.count(what), counts[what]);
        }
        x.raise(0);
        x.send(0, 2);
        due.is("22: count(4), of all boxes", x.count(4), 3);
        due.is("22: count(11)", x.count(11), OUTSIDE);
        due.is("22: count(-1)", x.count(-1), OUTSIDE);
        due.is("22: count(MIN)", x.count(Integer.MIN_VALUE), OUTSIDE);
    }

    private static void digest() {
        LetterCrew x = Due.crew("h?1-,a!03,b-;02,21");
        x.send(0, 4);
        x.send(2, 8);
        x.see(0, 1, false);
        x.tick(1);
        Due.write(x, "b;~");
        long h = 1399;
        for (int actor = 0; actor < 3; actor++) {
            for (int what = 0; what < 10; what++) {
                h = 31 * h + x.actor(actor, what);
            }
            for (int place = 0; place < x.actor(actor, 4); place++) {
                h = 31 * h + x.box(actor, place, 0);
                h = 31 * h + x.box(actor, place, 1);
            }
        }
        for (char c : "b;~".toCharArray()) {
            h = 31 * h + c;
        }
        for (int what = 0; what <= 10; what++) {
            h = 31 * h + x.count(what);
        }
        due.is("23: digest()", x.digest(), h);
        due.is("23: digest() again", x.digest(), h);
    }
}
