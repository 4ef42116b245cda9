/** Promise 19: what is DRAWN is what the same LETTERS and TICKS bring about when they are sent and done. */
public final class DrawnTest {
    private static final String[] CREWS = {"a-;", "a?3x,a?0x,a?7x;", "b-,a*x,t?8!10;01,12", "m*x,h?1!00,b-,a--x;02,13,23",
        "a!10,a!20,a!30,a!40,a!50,a!00;", "b*,b*,b*,ax,a?4x,h*x;03,13,23,34,45"};
    private static final int SEEDS = 40;
    private static final int TIMES = 12;

    public static void main(String[] args) {
        Due due = new Due("DrawnTest");
        for (String text : CREWS) {
            for (int seed = 0; seed < SEEDS; seed++) {
                compare(due, text, seed);
            }
        }
        due.end();
    }

    private static void compare(Due due, String text, int seed) {
        LetterCrew drawn = Due.crew(text);
        LetterCrew done = Due.crew(text);
        long at = seed;
        int refused = 0;
        for (int i = 0; i < TIMES; i++) {
            at = next(at);
            int actor = (int) (at / 65536 % done.count(0));
            at = next(at);
            // From outside, send() refuses what is LOST when it is DRAWN.
            if (done.send(actor, (int) (at / 65536 % 8)) < 0) {
                refused++;
            }
            done.tick(1);
        }
        String call = "19: drawn(" + TIMES + ", " + seed + ", ";
        due.is(call + "0) of " + text, drawn.drawn(TIMES, seed, 0), refused + done.count(5));
        due.is(call + "1) of " + text, drawn.drawn(TIMES, seed, 1), done.count(6));
        due.is(call + "2) of " + text, drawn.drawn(TIMES, seed, 2), at);
    }

    private static long next(long seed) {
        return (1103515245L * seed + 12345L) & 0x7fffffffL;
    }
}
