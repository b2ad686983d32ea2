import com.sun.management.ThreadMXBean;
import java.lang.management.ManagementFactory;

/** All calls of one run live in one room: what an object and its calls make, and never give back, has to be little. */
public final class RoomTest {
    private interface Call {
        int on(WindRoses desk, int number);
    }

    /** 7.3 million fields and elements; were all of them bytes, a run would still be within its room. */
    private static final long ROOM = 7_300_000;
    private static final int CALLS = 512;

    private static final Checks checks = new Checks();
    private static final ThreadMXBean threads = (ThreadMXBean) ManagementFactory.getThreadMXBean();

    public static void main(String[] args) {
        run("log", (desk, i) -> desk.log(i % 4, i / 4 % 4, i % 16, 1 + i % 99, 1));
        run("turn", (desk, i) -> i == 0 ? desk.log(0, 0, 0, 1, 1) : desk.turn(0, 0, 1));
        run("engrave", (desk, i) -> i % 3 == 0 ? desk.log(0, 0, i % 16, 1 + i % 99, 9)
            : i % 3 == 1 ? desk.renew(0, 0) : desk.engrave(0, 0));
        run("nextPlate", (desk, i) -> i < 16 ? desk.log(i / 4, i % 4, i, 50, 9) : desk.nextPlate());
        run("count(2)", (desk, i) -> i < 16 ? desk.log(i / 4, i % 4, i, 50, 9) : desk.count(2));
        run("share", (desk, i) -> i < 48 ? desk.log(0, 0, i / 3, 1 + i, 9) : desk.share(0, 0, i % 16, i % 3));
        run("dealt", (desk, i) -> i < 48 ? desk.log(0, 0, i / 3, 1 + i, 9) : desk.dealt(0, 0, i % 16, i % 3));
        run("unlike", (desk, i) -> i < 48 ? desk.log(i % 2, 0, i / 3, 1 + i, 9) : desk.unlike(0, 1, i % 4));
        run("undo", (desk, i) -> i % 2 == 0 ? desk.calm(0, 0, 1) : desk.undo());
        run("keep", (desk, i) -> desk.keep());
        run("restore", (desk, i) -> i == 0 ? desk.keep() : desk.restore());
        String text = "0.0:c;".repeat(12) + "1.1:5@5";
        run("logAll", (desk, i) -> i < text.length() ? desk.type(text.charAt(i)) : desk.logAll());
        run("type and clearText", (desk, i) -> i % 100 == 99 ? desk.clearText() : desk.type('c'));
        checks.end("RoomTest");
    }

    private static void run(String calls, Call call) {
        long before = threads.getCurrentThreadAllocatedBytes();
        WindRoses desk = new WindRoses();
        for (int i = 0; i < CALLS; i++) {
            call.on(desk, i);
        }
        long taken = threads.getCurrentThreadAllocatedBytes() - before;
        checks.due("room of " + calls + ", " + taken + " bytes", taken < ROOM ? 1 : 0, 1);
    }
}
