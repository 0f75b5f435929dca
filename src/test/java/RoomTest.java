import java.lang.management.ManagementFactory;
import java.lang.reflect.Array;
import java.lang.reflect.Field;
import java.lang.reflect.Modifier;
import java.util.ArrayList;
import java.util.Collections;
import java.util.IdentityHashMap;
import java.util.List;
import java.util.Set;

/** What a run of 512 calls makes stays far below the room that all calls of a run live in. */
public final class RoomTest {
    /** Of some 7.3 million fields and elements, at four bytes each, a small part. */
    private static final long MOST_BYTES = 2000000;
    private static final int CALLS = 512;
    private static final long ROOM_OBJECTS = 600000;
    private static final long ROOM_ELEMENTS = 7300000;

    public static void main(String[] args) throws Exception {
        roomOfNewObjects();
        com.sun.management.ThreadMXBean threads = (com.sun.management.ThreadMXBean) ManagementFactory.getThreadMXBean();
        dearestRun();
        long id = Thread.currentThread().getId();
        long ahead = threads.getThreadAllocatedBytes(id);
        dearestRun();
        long made = threads.getThreadAllocatedBytes(id) - ahead;
        Due.due("a run makes " + made + " bytes: too many", made > MOST_BYTES, false);
        ahead = threads.getThreadAllocatedBytes(id);
        HungerBooks x = new HungerBooks();
        made = threads.getThreadAllocatedBytes(id) - ahead;
        Due.due("a new object makes " + made + " bytes: too many", made > MOST_BYTES / 10, false);
        x.house(0, 9, 0, HungerBooks.NONE, 0);
        x.road(0, 1, 5);
        asked(x);
        ahead = threads.getThreadAllocatedBytes(id);
        asked(x);
        made = threads.getThreadAllocatedBytes(id) - ahead;
        Due.due("questions make " + made + " bytes: too many", made > 10000, false);
        Due.end("RoomTest");
    }

    /** The dearest call is the constructor: were all calls such ones, the room would hold them. */
    private static void roomOfNewObjects() throws Exception {
        long[] made = roomOf(new HungerBooks());
        Due.due(made[0] + " objects are made: too many", made[0] * CALLS > ROOM_OBJECTS, false);
        Due.due(made[1] + " fields and elements are made: too many", made[1] * CALLS > ROOM_ELEMENTS, false);
        HungerBooks x = new HungerBooks();
        x.house(0, 9, 0, HungerBooks.NONE, 0);
        long[] housed = roomOf(x);
        Due.due("a house has more than a new object", housed[1] - made[1] > made[1], false);
        for (int k = 0; k < 100; k++) x.plan(0, 8, 99999999 - k, 0);
        Due.due("plans keep nothing", roomOf(x)[1], housed[1]);
    }

    /** How many objects and arrays hang on one, and how many fields and elements these have; constants apart. */
    private static long[] roomOf(Object start) throws Exception {
        Set<Object> seen = Collections.newSetFromMap(new IdentityHashMap<>());
        List<Object> work = new ArrayList<>();
        work.add(start);
        long elements = 0;
        while (!work.isEmpty()) {
            Object one = work.remove(work.size() - 1);
            if (one == null || !seen.add(one)) continue;
            if (one.getClass().isArray()) {
                elements += Array.getLength(one);
                if (one instanceof Object[] all) work.addAll(java.util.Arrays.asList(all));
                continue;
            }
            for (Field f : one.getClass().getDeclaredFields()) {
                if (Modifier.isStatic(f.getModifiers())) continue;
                elements++;
                f.setAccessible(true);
                if (!f.getType().isPrimitive()) work.add(f.get(one));
            }
        }
        return new long[] {seen.size(), elements};
    }

    private static void asked(HungerBooks x) {
        for (int k = 0; k < 100; k++) {
            x.plan(0, 8, 99999999 - k, 0);
            x.judge(0, 8, 99999999, k, 0);
            x.way(k, 0, 1, 0);
            x.round(k % 12, 0);
            x.card(0, 0, 0, 0);
            x.rule(0, 0, 10);
            x.fake(0, 0, 0, 0);
        }
    }

    private static void dearestRun() {
        HungerBooks x = new HungerBooks();
        x.farm(0, 0);
        for (int k = 0; k < 24; k++) x.house(0, 9, 0, HungerBooks.NONE, 0);
        for (int k = 0; k < 2; k++) {
            Due.tell(x, "card bread " + "1+".repeat(235) + "1;", 0);
            Due.tell(x, "card bread " + "1+".repeat(235) + ";", 0);
        }
        for (int k = 0; k < 400; k++) x.crop(0, 0, 1);
        for (int k = 0; k < 6; k++) x.pass(60);
        for (int k = 0; k < 20; k++) x.plan(0, 8, 99999999, 0);
    }
}
