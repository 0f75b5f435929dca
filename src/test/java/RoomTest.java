import java.lang.management.ManagementFactory;

/** What a run of 512 calls makes stays far below the room that all calls of a run live in. */
public final class RoomTest {
    /** Of some 7.3 million fields and elements, at four bytes each, a small part. */
    private static final long MOST_BYTES = 2000000;

    public static void main(String[] args) {
        com.sun.management.ThreadMXBean threads = (com.sun.management.ThreadMXBean) ManagementFactory.getThreadMXBean();
        dearestRun();
        long id = Thread.currentThread().getId();
        long ahead = threads.getThreadAllocatedBytes(id);
        dearestRun();
        long made = threads.getThreadAllocatedBytes(id) - ahead;
        Due.due("a run makes " + made + " bytes: too many", made > MOST_BYTES, false);
        ahead = threads.getThreadAllocatedBytes(id);
        HungerBooks x = new HungerBooks();
        made = threads.getThreadAllocatedBytes(id) - ahead;
        Due.due("a new object makes " + made + " bytes: too many", made > MOST_BYTES / 10, false);
        x.house(0, 9, 0, HungerBooks.NONE, 0);
        x.road(0, 1, 5);
        asked(x);
        ahead = threads.getThreadAllocatedBytes(id);
        asked(x);
        made = threads.getThreadAllocatedBytes(id) - ahead;
        Due.due("questions make " + made + " bytes: too many", made > 10000, false);
        Due.end("RoomTest");
    }

    private static void asked(HungerBooks x) {
        for (int k = 0; k < 100; k++) {
            x.plan(0, 8, 99999999 - k, 0);
            x.judge(0, 8, 99999999, k, 0);
            x.way(k, 0, 1, 0);
            x.round(k % 12, 0);
            x.card(0, 0, 0, 0);
            x.rule(0, 0, 10);
            x.fake(0, 0, 0, 0);
        }
    }

    private static void dearestRun() {
        HungerBooks x = new HungerBooks();
        x.farm(0, 0);
        for (int k = 0; k < 24; k++) x.house(0, 9, 0, HungerBooks.NONE, 0);
        for (int k = 0; k < 2; k++) {
            Due.tell(x, "card bread " + "1+".repeat(235) + "1;", 0);
            Due.tell(x, "card bread " + "1+".repeat(235) + ";", 0);
        }
        for (int k = 0; k < 400; k++) x.crop(0, 0, 1);
        for (int k = 0; k < 6; k++) x.pass(60);
        for (int k = 0; k < 20; k++) x.plan(0, 8, 99999999, 0);
    }
}
