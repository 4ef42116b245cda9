/** Promises 1 to 5: a new object, letter, blank, fault, crew. */
public final class PageTest {
    private static final Due due = new Due("PageTest");

    public static void main(String[] args) {
        newObject();
        letter();
        blank();
        faultAmongActors();
        faultAmongLinks();
        crew();
        crewIsRefused();
        crewStartsAnew();
        due.end();
    }

    private static void newObject() {
        LetterCrew x = new LetterCrew();
        long h = 1399;
        for (int what = 0; what <= 10; what++) {
            due.is("1: count(" + what + ")", x.count(what), 0);
            h *= 31;
        }
        due.is("1: digest()", x.digest(), h);
        due.is("1: fault()", x.fault(), 0);
        due.is("1: blank()", x.blank(), 0);
        due.is("1: forget()", x.forget(), 0);
        due.is("1: crew()", x.crew(), LetterCrew.STATE);
        due.is("1: actor(0, 0)", x.actor(0, 0), LetterCrew.UNKNOWN);
        due.is("1: tick(1)", x.tick(1), LetterCrew.STATE);
        due.is("1: round(0)", x.round(0), LetterCrew.STATE);
        due.is("1: drawn(1, 0, 0)", x.drawn(1, 0, 0), LetterCrew.STATE);
        due.is("1: image()", x.image(), LetterCrew.STATE);
        due.is("1: restore()", x.restore(), LetterCrew.STATE);
    }

    private static void letter() {
        LetterCrew x = new LetterCrew();
        int[] outside = {31, 127, 0, -1, 1000, Integer.MIN_VALUE, Integer.MAX_VALUE};
        for (int code : outside) {
            due.is("2: letter(" + code + ")", x.letter(code), LetterCrew.OUTSIDE);
        }
        due.is("2: letter(32)", x.letter(32), 1);
        due.is("2: letter(126)", x.letter(126), 2);
        for (int i = 3; i <= 84; i++) {
            due.is("2: letter(97)", x.letter(97), i);
        }
        long full = x.digest();
        due.is("2: letter(97) on a full page", x.letter(97), LetterCrew.FULL);
        due.is("2: letter(31) on a full page", x.letter(31), LetterCrew.OUTSIDE);
        due.is("2: count(8)", x.count(8), 84);
        due.is("2: digest() after refusals", x.digest(), full);
    }

    private static void blank() {
        LetterCrew x = Due.page("a-;");
        due.is("3: blank()", x.blank(), 3);
        due.is("3: blank() again", x.blank(), 0);
        due.is("3: count(8)", x.count(8), 0);
        due.is("3: letter(97)", x.letter(97), 1);
    }

    private static void fault(String text, int place) {
        LetterCrew x = Due.page(text);
        long before = x.digest();
        due.is("4: fault() of " + text, x.fault(), place);
        due.is("4: digest() after fault() of " + text, x.digest(), before);
    }

    private static void faultAmongActors() {
        fault("", 0);
        for (String kind : "a t b m h".split(" ")) {
            fault(kind, 1);
            fault(kind + "-;", 3);
        }
        for (String other : "A c x - ; , 0 ? *".split(" ")) {
            fault(other, 0);
        }
        fault(" ", 0);
        fault("a,", 1);
        fault("a;", 1);
        fault("aa", 1);
        fault("a?", 2);
        fault("a?0", 3);
        fault("a?8", 3);
        fault("a?9", 2);
        fault("a?*", 2);
        fault("a!57", 4);
        fault("a!6", 2);
        fault("a!58", 3);
        fault("a!5;", 3);
        fault("a*-x", 4);
        fault("a*-x*", 4);
        fault("a?1?2?3?", 7);
        fault("a!00!01!02!", 10);
        fault("a-,", 3);
        fault("a-,;", 3);
        fault("a-,-", 3);
        fault("a-,a-,a-,a-,a-,a-", 17);
        fault("a-,a-,a-,a-,a-,a-,", 17);
        fault("a-,a-,a-,a-,a-,a-;", 18);
        fault("a!50;", 5);
        fault("a!10;0", 6);
        fault("a!10;1", 5);
    }

    private static void faultAmongLinks() {
        fault("a-;,", 3);
        fault("a-;;", 3);
        fault("a-;a", 3);
        fault("a-;0", 4);
        fault("a-;00", 4);
        fault("a-;01", 4);
        fault("a-;1", 3);
        fault("a-,a-;01", 8);
        fault("a-,a-;012", 8);
        fault("a-,a-;01;", 8);
        fault("a-,a-;01,", 9);
        fault("a-,a-;01,0", 10);
        fault("a-,a-;01,01", 10);
        fault("a-,a-;01,10", 10);
        fault("a-,a-;01,2", 9);
        fault("a-,a-;2", 6);
        fault("a-,a-;/", 6);
        fault("a-,a-;0/", 7);
        fault("a-,a-;02", 7);
        fault("a-,a-;01,,", 9);
        fault("a-,a-,a-,a-;01,02,03,12,13,23", 29);
        fault("a-,a-,a-,a-;01,02,03,12,13,23,", 29);
        fault("a-,a-,a-,a-;01,02,03,12,13,230", 29);
    }

    private static void crew() {
        LetterCrew x = Due.page("b?3,t*,m!07x-;01,21");
        due.is("5: crew()", x.crew(), 3);
        due.is("5: count(8)", x.count(8), 0);
        due.is("5: count(9)", x.count(9), 1);
        due.is("5: count(0)", x.count(0), 3);
        due.is("5: count(1)", x.count(1), 3);
        due.is("5: count(2)", x.count(2), 2);
        int[] kinds = {2, 1, 3};
        int[] steps = {1, 1, 3};
        int[] links = {1, 2, 1};
        for (int i = 0; i < 3; i++) {
            int[] facts = {kinds[i], 1, 0, 0, 0, 0, steps[i], 31, 1, links[i]};
            for (int what = 0; what < 10; what++) {
                due.is("5: actor(" + i + ", " + what + ")", x.actor(i, what), facts[what]);
            }
        }
        due.is("5: crew() of six", Due.page("a-,a-,a-,a-,a-,a!50;01,02,03,04,05,12").crew(), 6);
        due.is("5: crew() of the longest", Due.page("h!07!17!27,h!07!17!27,h!07!17!27,h!07!17!27,"
                + "h!07!17!27,h!57!17!27;01,02,03,04,05,12").crew(), 6);
    }

    private static void crewIsRefused() {
        String[] none = {"", "a", "a-", "a?", "a!0", "a!00", "a-,", "a-,a-;0", "a-,a-;01,", "a-;01", "q-;", "a-;;",
            "a!10;", "a-,a-!20;01", "a!50,a-,a-,a-,a-;", "a-,a-;01,10"};
        for (String text : none) {
            LetterCrew x = Due.crew("t-;");
            x.send(0, 4);
            x.image();
            x.tick(2);
            x.see(0, 3, true);
            Due.write(x, text);
            long before = x.digest();
            due.is("5: crew() of " + text, x.crew(), LetterCrew.STATE);
            due.is("5: digest() after crew() of " + text, x.digest(), before);
            due.is("5: tick(1) after crew() of " + text, x.tick(1), 1);
            due.is("5: restore() after crew() of " + text, x.restore(), 0);
        }
    }

    private static void crewStartsAnew() {
        LetterCrew x = Due.crew("a-x,b*,a-,a-;01");
        x.send(1, 5);
        x.send(2, 5);
        x.send(3, 5);
        x.fell(3);
        x.tick(2);
        x.fell(1);
        x.raise(0);
        x.send(0, 5);
        x.see(0, 2, true);
        x.round(0);
        x.image();
        Due.write(x, "h-,h*;");
        due.is("5: crew() again", x.crew(), 2);
        int[] counts = {2, 2, 0, 0, 0, 0, 0, 0, 0, 2, 1};
        for (int what = 0; what < counts.length; what++) {
            due.is("5: count(" + what + ") of another crew", x.count(what), counts[what]);
        }
        int[] facts = {4, 1, 0, 0, 0, 0, 1, 31, 1, 0};
        for (int what = 0; what < facts.length; what++) {
            due.is("5: actor(0, " + what + ") of another crew", x.actor(0, what), facts[what]);
        }
        due.is("5: restore() of an image of another crew", x.restore(), LetterCrew.STATE);
        due.is("5: a boss of another crew forgot", raisesOfNextCrew(), 1);
    }

    private static int raisesOfNextCrew() {
        LetterCrew x = Due.crew("b-,a-;01");
        x.fell(1);
        x.fell(1);
        Due.write(x, "b-,a-;01");
        x.crew();
        return x.fell(1);
    }
}
