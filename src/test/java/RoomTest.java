import java.lang.management.ManagementFactory;

/** Rows are made once: an object is small, and 512 of the dearest calls make next to nothing and end soon. */
public final class RoomTest {
    private static final Check CHECK = new Check();
    private static final com.sun.management.ThreadMXBean THREADS =
        (com.sun.management.ThreadMXBean) ManagementFactory.getThreadMXBean();
    private static final String TEXT = "loop a by 13 27 5 bound 9999 three noise 7;loop b by 25 bound 9999;"
        + "wave w swing 1000 every 99 for 500,ramp -1000 to 1000 for 500,hold 1 for 500,swing 9 every 7 for 500,"
        + "hold 1 for 500,hold 1 for 500,hold 1 for 500,ramp 5 to 9 for 500";
    private static int sink;

    public static void main(String[] args) {
        // once ahead of what is measured, as classes and texts are loaded then
        allCalls(new LevelBits(), 3);
        long before = allocated();
        LevelBits x = new LevelBits();
        long made = allocated() - before;
        // 512 objects stay below the room: 7.3 million elements, of which none takes more than 8 bytes
        CHECK.due("bytes of an object: " + made, made < 60000, true);
        before = allocated();
        allCalls(x, 512);
        long more = allocated() - before;
        CHECK.due("bytes of calls: " + more, more < 20000, true);
        CHECK.end("room");
    }

    private static long allocated() {
        return THREADS.getCurrentThreadAllocatedBytes();
    }

    /** Each of the calls so often; an object is promised for 512 calls, but its room must not grow by more. */
    private static void allCalls(LevelBits x, int often) {
        for (int i = 0; i < often; i++) {
            for (int at = 0; at < TEXT.length(); at += 20) {
                x.feed(Check.number(TEXT, at), Check.number(TEXT, at + 4), Check.number(TEXT, at + 8),
                    Check.number(TEXT, at + 12), Check.number(TEXT, at + 16));
            }
            sink += x.text(TEXT.length());
            sink += x.wave(0, 3) + x.loop(0, 1) + x.level(0, 99999) + x.letter(0, 0, 0);
            x.begin(0, 0);
        }
        for (int i = 0; i < 8; i++) {
            sink += x.run(500);
        }
        x.run(96);
        for (int i = 0; i < often; i++) {
            x.keep(i % 2);
            x.back(i % 2);
            sink += x.tone(0, 4095, 200) + x.like(0, 4095, 1) + x.worst(3, 32) + x.summedAt(3, 32, 5) + x.worst(3, 2);
            sink += x.astray(0, 4095) + x.mean(0, 4095, 0) + x.rows(0, 4095, 0) + x.nth(0, 9999) + x.often(1, 0, 4095);
            sink += x.cycle(0, 333, 0) + x.cycle(1, 2, 0) + x.fed(0, 2, 333, 3000) + x.apart(0, 1, 0, 500) + x.steady(0);
            sink += x.sweep(0, -1000, 40, 50, 2);
        }
    }
}
