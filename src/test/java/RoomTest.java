import java.lang.management.ManagementFactory;

/** The dearest calls, as many as an object is used for, make next to nothing: all calls of a run live in one room. */
public final class RoomTest {
    /** Some of them are five calls each, and forty make the object. */
    private static final int CALLS = 90;
    private static final long MOST_BYTES = 48 * 1024, MOST_BYTES_OF_AN_OBJECT = 256 * 1024;

    private static int sum = 0;

    public static void main(String[] args) {
        if (!(ManagementFactory.getThreadMXBean() instanceof com.sun.management.ThreadMXBean beans)) {
            System.out.println("RoomTest: this machine does not tell what a thread makes");
            return;
        }
        long thread = Thread.currentThread().getId();
        for (int kind = -1; kind < 10; kind++) {
            EightWorlds x = made();
            long before = beans.getThreadAllocatedBytes(thread);
            for (int i = 0; i < CALLS; i++) {
                call(x, kind, i);
            }
            long bytes = beans.getThreadAllocatedBytes(thread) - before;
            Check.holds("calls of kind " + kind + " make " + bytes + " bytes", bytes <= MOST_BYTES);
        }
        long before = beans.getThreadAllocatedBytes(thread);
        made();
        long bytes = beans.getThreadAllocatedBytes(thread) - before;
        Check.holds("an object makes " + bytes + " bytes", bytes <= MOST_BYTES_OF_AN_OBJECT);
        Check.end("RoomTest");
    }

    private static EightWorlds made() {
        EightWorlds x = Check.withSongs(900, 20, 500, 700);
        Check.law(x, "p=0|p<n-1&w>300?w*3+c*c-(i+t)*k%17;c>50?9000-c*p/(i+1);1");
        Check.law(x, "w+c*20");
        for (int w = 0; w < 9; w++) {
            x.world(w % 3 + w / 5 * 10, 500100, w);
            x.come(w, 100);
        }
        return x;
    }

    private static void call(EightWorlds x, int kind, int i) {
        switch (kind) {
            case 0 -> sum += x.strong(1, 400, i);
            case 1 -> sum += x.odds(i % 9, i % 4, 6, i % 2);
            case 2 -> sum += x.come(i % 9, 200);
            case 3 -> sum += x.said(i % 2, -1);
            case 4 -> sum += x.against(12, i, 50);
            case 5 -> sum += x.after(i % 9);
            case 6 -> sum += x.luck(0, -1) + x.guess(511, 1) + x.chart(3, 1);
            case 7 -> sum += x.crate(i % 9, i % 4, 1) + x.undo() + x.redo();
            case 8 -> sum += x.body(7) + x.act(0, 3, i) + x.keep(0, 0) + x.taken(0, 7);
            default -> sum += x.row(i % 6, i % 5, 60) + x.keepings(0, 0, 0, 60) + Check.law(x, "w+(c");
        }
    }
}
