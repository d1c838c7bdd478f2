import java.lang.management.ManagementFactory;

/** All calls of a run live in one room: what an object needs it makes in its constructor, and no call makes more. */
public final class RoomTest {
    private static final long MOST_OF_AN_OBJECT = 16384, MOST_OF_ALL_CALLS = 16384;
    private static final int OBJECTS = 200;

    public static void main(String[] args) {
        if (!(ManagementFactory.getThreadMXBean() instanceof com.sun.management.ThreadMXBean bean)
                || !bean.isThreadAllocatedMemorySupported()) {
            System.out.println("this machine does not tell what is made");
            return;
        }
        String text = "c5,2,1,9,0,2;d3,1,0;p2,2,1;m5,5,1;w4,3,0;u2,4,1;d5,2,1;";
        byte[] bytes = text.getBytes(java.nio.charset.StandardCharsets.ISO_8859_1);
        SaintHill[] made = new SaintHill[OBJECTS];
        allCalls(new SaintHill(), bytes);
        long ahead = bean.getCurrentThreadAllocatedBytes();
        for (int i = 0; i < OBJECTS; i++) {
            made[i] = new SaintHill();
        }
        long each = (bean.getCurrentThreadAllocatedBytes() - ahead) / OBJECTS;
        Check.holds("an object takes little room, not " + each + " bytes", each <= MOST_OF_AN_OBJECT);
        ahead = bean.getCurrentThreadAllocatedBytes();
        for (SaintHill x : made) {
            allCalls(x, bytes);
        }
        long calls = bean.getCurrentThreadAllocatedBytes() - ahead;
        Check.holds("no call makes an object, but " + calls + " bytes were made", calls <= MOST_OF_ALL_CALLS);
        Check.end();
    }

    /** Some 400 calls, each method among them, refused ones too. */
    private static void allCalls(SaintHill x, byte[] text) {
        for (int round = 0; round < 3; round++) {
            for (byte b : text) {
                x.feed(b);
            }
            x.hill();
            acts(x);
            for (int d = 0; d < 7; d++) {
                foretold(x, d);
            }
            asked(x);
        }
    }

    private static void acts(SaintHill x) {
        x.row(0, 0, 40);
        x.row(1, 0, 16);
        x.row(2, 2, -1);
        x.set(0, 0, -1);
        x.copy(0, 0, 1, 0, 16);
        x.drop(2);
        x.fault();
        x.years(24);
        x.door(1, 0);
        x.build(0, 1, 6);
        x.speed(7);
        x.undo();
        x.house(0, 4);
        x.at(1, 6);
        x.image(0);
        x.restore(0);
    }

    private static void foretold(SaintHill x, int d) {
        x.rests(d);
        x.line(5, d);
        x.left(d);
        x.next(d);
        x.often(d, 60);
        x.aim(d, 60, 1);
        x.shun(63, d, 1);
    }

    private static void asked(SaintHill x) {
        x.site(0, 20, 2);
        x.sulks();
        x.peace(1);
        x.rolls(1, 0, 16, 2);
        x.sorts(5, 1, 0, 16);
        x.play(5, 3, 1);
        x.drawn(60, 999999, 1);
        x.kind(5);
        x.as(5, 5);
        x.ask(1, 0);
        x.trace(0);
        x.count(9);
        x.status();
    }
}
