/** Promises 31 to 35: exchange, round, road, post, way. */
public final class MapsTest {
    private static final int NONE = HungerBooks.NONE;

    public static void main(String[] args) {
        exchanges();
        rounds();
        ties();
        roads();
        posts();
        ways();
        Due.end("MapsTest");
    }

    private static void exchanges() {
        HungerBooks x = new HungerBooks();
        int[][] wrong = {{-1, 0, 1, 1}, {12, 0, 1, 1}, {0, -1, 1, 1}, {0, 12, 1, 1}, {3, 3, 1, 1}, {0, 1, 0, 1}, {0, 1, 100, 1},
            {0, 1, 1, -1}, {0, 1, 1, 100}, {0, 1, 0, 0}};
        for (int[] r : wrong) {
            Due.due("exchange " + r[0] + " " + r[1] + " " + r[2] + " " + r[3], x.exchange(r[0], r[1], r[2], r[3]), false);
        }
        Due.due("the most", x.exchange(11, 0, 1, 99), true);
        Due.due("one way alone", x.round(11, 0), NONE);
        Due.due("and back", x.exchange(0, 11, 1, 99), true);
        Due.due("gain", x.round(11, 0), 9801000);
        Due.due("told again", x.exchange(0, 11, 99, 1), true);
        Due.due("no gain above 1", x.round(11, 0), NONE);
        Due.due("told again", x.exchange(0, 11, 98, 1), true);
        Due.due("cut: 99 by 98", x.round(11, 0), 1010);
        Due.due("none any more", x.exchange(0, 11, 5, 0), true);
        Due.due("no round", x.round(11, 0), NONE);
        Due.due("none that never was", x.exchange(4, 5, 5, 0), true);
    }

    private static void rounds() {
        HungerBooks x = new HungerBooks();
        x.exchange(2, 7, 3, 4);
        x.exchange(7, 5, 5, 6);
        x.exchange(5, 2, 7, 8);
        // 4 by 3, 6 by 5, 8 by 7: 192 by 105.
        for (int[] r : new int[][] {{2, 7, 5}, {7, 5, 2}, {5, 2, 7}}) {
            Due.due("gain from " + r[0], x.round(r[0], 0), 1828);
            Due.due("steps from " + r[0], x.round(r[0], 1), 3);
            Due.due("first from " + r[0], x.round(r[0], 10), r[1]);
            Due.due("second from " + r[0], x.round(r[0], 11), r[2]);
            Due.due("no third", x.round(r[0], 12), NONE);
        }
        Due.due("what 2", x.round(2, 2), NONE);
        Due.due("what 9", x.round(2, 9), NONE);
        Due.due("what -1", x.round(2, -1), NONE);
        Due.due("desk 12", x.round(12, 0), NONE);
        Due.due("desk -1", x.round(-1, 0), NONE);
        Due.due("a desk off the round", x.round(0, 0), NONE);
        // A round of four steps is none, however great its gain.
        HungerBooks y = new HungerBooks();
        for (int k = 0; k < 4; k++) y.exchange(k, (k + 1) % 4, 1, 99);
        for (int k = 0; k < 4; k++) Due.due("four steps", y.round(k, 0), NONE);
        // Nor is one that comes by a desk twice: 0, 1, 0 and 0, 1, 2, 1, 0.
        y.exchange(1, 0, 99, 1);
        Due.due("no gain", y.round(0, 0), NONE);
        y.exchange(2, 1, 99, 2);
        Due.due("not over desk 2 and back", y.round(0, 0), NONE);
        Due.due("from desk 1", y.round(1, 0), 2000);
        HungerBooks v = new HungerBooks();
        v.exchange(3, 0, 1, 2);
        v.exchange(0, 3, 1, 1);
        Due.due("by desk 0", v.round(3, 10), 0);
        v.exchange(0, 3, 1, 0);
        v.exchange(0, 1, 1, 1);
        v.exchange(1, 3, 1, 1);
        Due.due("by desks 0 and 1", v.round(3, 11), 1);
        v.exchange(3, 1, 1, 5);
        v.exchange(1, 3, 1, 0);
        v.exchange(1, 0, 1, 1);
        v.exchange(0, 3, 1, 1);
        Due.due("by desks 1 and 0", v.round(3, 11), 0);
        HungerBooks z = new HungerBooks();
        z.exchange(0, 1, 1, 99);
        z.exchange(1, 2, 1, 99);
        z.exchange(2, 0, 1, 99);
        Due.due("the greatest gain", z.round(0, 0), 970299000);
    }

    private static void ties() {
        HungerBooks x = new HungerBooks();
        x.exchange(0, 9, 1, 2);
        x.exchange(9, 0, 1, 1);
        x.exchange(0, 4, 1, 4);
        x.exchange(4, 6, 2, 1);
        x.exchange(6, 0, 1, 1);
        Due.due("of one gain the fewer steps", x.round(0, 1), 2);
        Due.due("its desk", x.round(0, 10), 9);
        x.exchange(0, 5, 3, 1);
        x.exchange(5, 0, 1, 6);
        Due.due("then the least desk", x.round(0, 10), 5);
        x.exchange(0, 9, 1, 0);
        x.exchange(0, 5, 1, 0);
        x.exchange(4, 3, 2, 1);
        x.exchange(3, 0, 1, 1);
        Due.due("of three steps the least first", x.round(0, 10), 4);
        Due.due("then the least second", x.round(0, 11), 3);
        x.exchange(0, 2, 1, 1);
        x.exchange(2, 11, 1, 2);
        x.exchange(11, 0, 1, 1);
        Due.due("the first desk goes ahead of the second", x.round(0, 10), 2);
        HungerBooks y = new HungerBooks();
        y.exchange(3, 0, 1, 2);
        y.exchange(0, 3, 1, 1);
        y.exchange(0, 1, 1, 1);
        y.exchange(1, 3, 1, 1);
        Due.due("two steps by desk 0 ahead of three by 0 and 1", y.round(3, 1), 2);
        x.exchange(4, 6, 99, 50);
        Due.due("a greater gain goes ahead of all", x.round(0, 11), 6);
        Due.due("200 by 99", x.round(0, 0), 2020);
    }

    private static void roads() {
        HungerBooks x = new HungerBooks();
        int[][] wrong = {{-1, 0, 1}, {16, 0, 1}, {0, -1, 1}, {0, 16, 1}, {4, 4, 1}, {0, 1, -1}, {0, 1, 100}};
        for (int[] r : wrong) Due.due("road " + r[0] + " " + r[1] + " " + r[2], x.road(r[0], r[1], r[2]), false);
        Due.due("no road", x.way(0, 0, 1, 0), NONE);
        Due.due("road", x.road(15, 0, 99), true);
        Due.due("there", x.way(0, 15, 0, 1), 99);
        Due.due("and back", x.way(0, 0, 15, 1), 99);
        Due.due("told again", x.road(0, 15, 7), true);
        Due.due("its miles", x.way(0, 15, 0, 1), 7);
        Due.due("none any more", x.road(0, 15, 0), true);
        Due.due("no way", x.way(0, 15, 0, 1), NONE);
        Due.due("no way back", x.way(0, 0, 15, 0), NONE);
        for (int k = 0; k < 15; k++) x.road(k, k + 1, 99);
        Due.due("by all places", x.way(0, 0, 15, 1), 1485);
        Due.due("no posts", x.way(0, 0, 15, 0), 0);
    }

    private static void posts() {
        HungerBooks x = new HungerBooks();
        x.road(0, 1, 5);
        int[][] wrong = {{-1, 0, 1, 0}, {16, 0, 1, 0}, {0, -1, 1, 0}, {0, 16, 1, 0}, {1, 1, 1, 0}, {0, 1, 0, 0}, {0, 1, 10, 0},
            {0, 1, 3, -1}, {0, 1, 3, 3}, {0, 1, 1, 1}};
        for (int[] r : wrong) Due.due("post " + r[0] + " " + r[1] + " " + r[2] + " " + r[3], x.post(r[0], r[1], r[2], r[3]), NONE);
        Due.due("no post", x.count(7), 0);
        Due.due("every day", x.post(0, 1, 1, 0), 1);
        Due.due("days that leave 2 by 9", x.post(1, 0, 9, 2), 2);
        Due.due("the same again", x.post(0, 1, 9, 2), 3);
        int[][] days = {{0, 1}, {2, 3}, {9, 1}, {11, 3}, {398, 3}, {399, 1}};
        for (int[] d : days) {
            Due.due("posts on day " + d[0], x.way(d[0], 0, 1, 0), d[1]);
            Due.due("posts back on day " + d[0], x.way(d[0], 1, 0, 0), d[1]);
        }
        for (int k = 4; k <= 20; k++) Due.due("post " + k, x.post(1, 0, 1, 0), k);
        Due.due("the 21st", x.post(1, 0, 1, 0), NONE);
        Due.due("posts", x.count(7), 20);
        Due.due("on the road all together", x.way(2, 0, 1, 0), 20);
        Due.due("its miles", x.way(2, 0, 1, 1), 5);
        x.road(0, 1, 0);
        Due.due("no road any more", x.way(2, 0, 1, 0), NONE);
        x.road(0, 1, 8);
        Due.due("its posts stayed", x.way(0, 0, 1, 0), 18);
    }

    private static void ways() {
        HungerBooks x = new HungerBooks();
        x.road(0, 1, 1);
        x.road(1, 2, 1);
        x.road(0, 3, 50);
        x.road(3, 2, 50);
        x.road(0, 4, 60);
        x.road(4, 2, 60);
        x.post(1, 2, 7, 0);
        x.post(3, 2, 2, 0);
        Due.due("the fewest posts", x.way(0, 0, 2, 0), 0);
        Due.due("ahead of miles", x.way(0, 0, 2, 1), 120);
        Due.due("day 7: by place 3", x.way(7, 0, 2, 1), 100);
        Due.due("day 1: by place 1", x.way(1, 0, 2, 1), 2);
        x.post(0, 4, 1, 0);
        Due.due("one post on each way", x.way(0, 0, 2, 0), 1);
        Due.due("of these the fewest miles", x.way(0, 0, 2, 1), 2);
        x.post(1, 2, 1, 0);
        Due.due("two posts on one road", x.way(0, 0, 2, 1), 100);
        Due.due("to itself", x.way(0, 2, 2, 0), 0);
        Due.due("to itself", x.way(0, 9, 9, 1), 0);
        Due.due("no road leads there", x.way(0, 0, 9, 1), NONE);
        int[][] wrong = {{-1, 0, 2, 0}, {400, 0, 2, 0}, {0, -1, 2, 0}, {0, 16, 2, 0}, {0, 0, -1, 0}, {0, 0, 16, 0}, {0, 0, 2, 2},
            {0, 0, 2, -1}};
        for (int[] r : wrong) Due.due("way " + r[0] + " " + r[1] + " " + r[2] + " " + r[3], x.way(r[0], r[1], r[2], r[3]), NONE);
    }
}
