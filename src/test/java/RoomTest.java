import java.lang.management.ManagementFactory;

/** All calls of one run live in one room: calls make no objects, and a new object makes few. */
public final class RoomTest {
    private static final com.sun.management.ThreadMXBean ROOM =
            (com.sun.management.ThreadMXBean) ManagementFactory.getThreadMXBean();
    private static final String TEXT = "h!07!17!27,t!07?1!27,b!07!17x,b!07!17!27,a!07*!27,m!57!17!27;01,02,03,24,05,12";

    public static void main(String[] args) {
        Due due = new Due("RoomTest");
        int[] codes = TEXT.chars().toArray();
        LetterCrew x = new LetterCrew();
        use(x, codes);
        x = new LetterCrew();
        long before = used();
        use(x, codes);
        // The counting itself may make a little.
        due.is("512 calls make next to nothing", (used() - before) / 2048, 0);
        before = used();
        x = new LetterCrew();
        due.is("a new object is below 16 KiB", (used() - before) / 16384, 0);
        due.end();
    }

    private static long used() {
        return ROOM.getThreadAllocatedBytes(Thread.currentThread().getId());
    }

    private static void use(LetterCrew x, int[] codes) {
        for (int time = 0; time < 3; time++) {
            for (int code : codes) {
                x.letter(code);
            }
            x.fault();
            x.crew();
            for (int i = 0; i < 8; i++) {
                x.send(i % 6, i);
                x.see(i % 6, i % 4, true);
                x.tick(50);
                x.fell(i % 6);
                x.raise(i % 6);
                x.cut(0, i % 6);
                x.tie(0, i % 6);
                x.be(i % 6, i % 5);
                x.round(0);
                x.drawn(30, i, 0);
                x.image();
                x.restore();
                x.count(6);
                x.digest();
            }
            x.forget();
            x.blank();
        }
    }
}
