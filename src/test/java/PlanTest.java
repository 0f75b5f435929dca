import java.util.Random;

/** Promises 36 and 37: plan, judge. */
public final class PlanTest {
    private static final int NONE = HungerBooks.NONE;

    public static void main(String[] args) {
        bounds();
        oneHouse();
        cut();
        twoWeeks();
        wantedToday();
        leastRow();
        againstAllRows();
        Due.end("PlanTest");
    }

    private static void bounds() {
        HungerBooks x = new HungerBooks();
        x.house(0, 1, 0, NONE, 0);
        int[][] plans = {{-1, 1, 9999, 0}, {6, 1, 9999, 0}, {0, 0, 9999, 0}, {0, 9, 9999, 0}, {0, 1, -1, 0}, {0, 1, 100000000, 0},
            {0, 1, 9999, 2}, {0, 1, 9999, -1}, {0, 1, 9999, 9}, {0, 1, 9999, 11}, {0, 1, 2799, 0}, {0, 1, 2799, 10},
            {0, 2, 5599, 0}, {0, 3, 8399, 0}, {0, 8, 22399, 0}, {0, 8, 22399, 17}, {0, 2, 2800, 1},
            {0, Integer.MAX_VALUE, 9999, 10}, {0, Integer.MIN_VALUE, 9999, 10}};
        for (int[] p : plans) {
            Due.due("plan " + p[0] + " " + p[1] + " " + p[2] + " " + p[3], x.plan(p[0], p[1], p[2], p[3]), NONE);
        }
        int[][] judged = {{-1, 1, 9999, 0, 0}, {6, 1, 9999, 0, 0}, {0, 0, 9999, 0, 0}, {0, 9, 9999, 0, 0}, {0, 1, -1, 0, 0},
            {0, 1, 100000000, 0, 0}, {0, 1, 9999, -1, 0}, {0, 1, 9999, 4, 0}, {0, 1, 9999, 0, 2}, {0, 1, 9999, 0, -1},
            {0, 1, 2799, 0, 0}, {0, 8, 99999999, 65536, 0}, {0, 2, 9799, 3, 1}};
        for (int[] j : judged) {
            Due.due("judge " + j[0] + " " + j[1] + " " + j[2] + " " + j[3] + " " + j[4], x.judge(j[0], j[1], j[2], j[3], j[4]), NONE);
        }
        Due.due("the most stock", x.plan(0, 8, 99999999, 0), 0);
        Due.due("the last row", x.judge(0, 8, 56000, 65535, 1), 0);
        Due.due("the last row's ill", x.judge(0, 8, 56000, 65535, 0), 0);
        Due.due("the first row", x.judge(0, 8, 22400, 0, 1), 0);
        Due.due("the first row's ill", x.judge(0, 8, 22400, 0, 0), 8);
        Due.due("a town without houses", x.plan(3, 8, 0, 17), 0);
        Due.due("its stock", x.plan(3, 8, 77, 1), 77);
        Due.due("its rows", x.judge(3, 8, 77, 65535, 1), 77);
    }

    /** 7000 are wanted; 2800, 4200, 5600, 7000 given lack 4200, 2800, 1400, 0; ILL above 3000. */
    private static void oneHouse() {
        HungerBooks x = new HungerBooks();
        x.house(0, 1, 0, NONE, 0);
        int[][] rows = {{2800, 1, 0, 0}, {4199, 1, 1399, 0}, {4200, 0, 0, 1}, {99999999, 0, 99995799, 1}};
        for (int[] r : rows) {
            Due.due("ill with " + r[0], x.plan(0, 1, r[0], 0), r[1]);
            Due.due("left of " + r[0], x.plan(0, 1, r[0], 1), r[2]);
            Due.due("digit with " + r[0], x.plan(0, 1, r[0], 10), r[3]);
        }
        Due.tell(x, "ill 280;", 0);
        Due.due("2800 is not above 280 hundredths of 1000", x.judge(0, 1, 4200, 1, 0), 0);
        Due.tell(x, "ill 279;", 0);
        Due.due("it is above 279", x.judge(0, 1, 4200, 1, 0), 1);
    }

    /** Each HOUSE's part is cut by itself. */
    private static void cut() {
        HungerBooks x = new HungerBooks();
        x.house(0, 1, 0, NONE, 0);
        x.house(0, 1, 0, NONE, 0);
        x.house(1, 1, 0, NONE, 0);
        HungerBooks one = new HungerBooks();
        one.house(0, 1, 0, NONE, 0);
        Due.tell(x, "need 1;", 0);
        // 7 wanted: 2.8, 4.2, 5.6, 7.
        int[] given = {2, 4, 5, 7};
        for (int d = 0; d < 4; d++) Due.due("left of 7000, digit " + d, one.judge(0, 1, 7000, d, 1), 4200 - 1400 * d);
        for (int d = 0; d < 4; d++) Due.due("left of 100, digit " + d, x.judge(0, 1, 100, d, 1), 100 - 2 * given[d]);
        Due.due("another town", x.judge(1, 1, 100, 0, 1), 98);
        Due.due("the least there is", x.plan(0, 1, 3, 0), NONE);
        Due.due("just enough", x.plan(0, 1, 4, 0), 2);
    }

    private static void twoWeeks() {
        HungerBooks x = new HungerBooks();
        x.house(0, 1, 0, NONE, 0);
        x.house(0, 2, 0, NONE, 14000);
        // The second house's garden feeds it; the first one lacks 4200, 2800, 1400, 0 a week.
        int[][] rows = {{0, 2}, {1, 2}, {2, 2}, {3, 2}, {4, 1}, {5, 1}, {6, 1}, {7, 0}, {8, 1}, {9, 1}, {10, 0}, {11, 0},
            {12, 1}, {13, 0}, {14, 0}, {15, 0}};
        for (int[] r : rows) Due.due("ill of row " + r[0], x.judge(0, 2, 999999, r[0], 0), r[1]);
        // Rows without ill: 1 3, 2 2, 2 3, 3 1 and above; of one sum the least row is the first.
        Due.due("no ill", x.plan(0, 2, 999999, 0), 0);
        Due.due("the most left", x.plan(0, 2, 999999, 1), 999999 - 33600);
        Due.due("the least row", x.plan(0, 2, 999999, 10), 1);
        Due.due("the least row", x.plan(0, 2, 999999, 11), 3);
        Due.due("no third week", x.plan(0, 2, 999999, 12), NONE);
        Due.due("one ill", x.plan(0, 2, 33599, 0), 1);
        Due.due("its first digit", x.plan(0, 2, 33599, 10), 1);
        Due.due("its second digit", x.plan(0, 2, 33599, 11), 0);
        Due.due("its stock", x.plan(0, 2, 33599, 1), 33599 - 21000);
        x.house(0, 1, 0, NONE, 4200);
        Due.due("what the garden gives counts each week", x.judge(0, 2, 999999, 0, 0), 2);
        x.house(0, 1, 0, NONE, 2699);
        // 4200 less 2699: 1501 a week, 3002 in two.
        Due.due("just above in the second week", x.judge(0, 2, 999999, 0, 0), 3);
    }

    private static void wantedToday() {
        HungerBooks x = new HungerBooks();
        x.house(0, 3, 0, NONE, 0);
        Due.tell(x, "need 10;", 1);
        Due.due("three mouths of 1000", x.judge(0, 1, 99999, 3, 1), 99999 - 21000);
        x.die(0);
        Due.due("the living, heard of or not", x.judge(0, 1, 99999, 3, 1), 99999 - 14000);
        x.pass(7);
        Due.due("NEED of today's week", x.judge(0, 1, 99999, 3, 1), 99999 - 140);
        Due.tell(x, "need 100;ill 0;", 1);
        Due.due("as known today", x.judge(0, 1, 99999, 3, 1), 99999 - 1400);
        Due.due("ILL of today's week", x.judge(0, 1, 99999, 2, 0), 1);
        Due.due("nothing lacks", x.judge(0, 1, 99999, 3, 0), 0);
        HungerBooks y = new HungerBooks();
        for (int k = 0; k < 24; k++) y.house(0, 9, 0, NONE, 0);
        Due.tell(y, "need 999999;", 0);
        Due.due("far above any stock", y.plan(0, 8, 99999999, 0), NONE);
        Due.due("far above any stock", y.judge(0, 8, 99999999, 65535, 0), NONE);
        Due.tell(y, "need 16534;", 0);
        Due.due("one week of it", y.plan(0, 1, 99999999, 0), 0);
        Due.tell(y, "need 1;ill 0;", 0);
        Due.due("all are ill in all weeks", y.judge(0, 8, 99999999, 0, 0), 192);
        // 25 of 63 a house and week: 24 times 25 times 8.
        Due.due("all are ill for want of stock", y.plan(0, 8, 4800, 0), 192);
        for (int w = 0; w < 8; w++) Due.due("digit " + w, y.plan(0, 8, 4800, 10 + w), 0);
        Due.due("not even that", y.plan(0, 8, 4799, 0), NONE);
        // A week of 100 hundredths behind one that is short is ill too; so seven whole weeks, then a short one.
        Due.due("given 63 a house and week: 24 times 63 times 8", y.plan(0, 8, 12096, 0), 0);
        Due.due("one less", y.plan(0, 8, 12095, 0), 24);
        Due.due("its last week", y.plan(0, 8, 12095, 17), 0);
    }

    /** Digits count from the first WEEK on. */
    private static void leastRow() {
        HungerBooks x = new HungerBooks();
        x.house(0, 1, 0, NONE, 99999);
        Due.due("nobody is ever ill", x.plan(0, 8, 99999, 0), 0);
        for (int w = 0; w < 8; w++) Due.due("the least given", x.plan(0, 8, 99999, 10 + w), 0);
        HungerBooks y = new HungerBooks();
        y.house(0, 1, 0, NONE, 0);
        Due.due("row 3 is 0, 3", y.judge(0, 2, 9800, 3, 1), 0);
        Due.due("row 12 is 3, 0", y.judge(0, 2, 9800, 12, 1), 0);
        Due.due("ill in both weeks", y.judge(0, 2, 9800, 3, 0), 2);
        Due.due("ill in the second week", y.judge(0, 2, 9800, 12, 0), 1);
    }

    /** A plan is the best of all rows as they are judged. */
    private static void againstAllRows() {
        Random random = new Random(7);
        for (int round = 0; round < 40; round++) {
            HungerBooks x = new HungerBooks();
            int houses = 1 + random.nextInt(24);
            int mouths = 0;
            for (int h = 0; h < houses; h++) {
                int m = 1 + random.nextInt(9);
                x.house(0, m, 0, NONE, random.nextInt(random.nextBoolean() ? 99999 : 9000));
                mouths += m;
            }
            // With the greater ones most rows want more than any stock.
            int need = 1 + random.nextInt(round % 4 == 3 ? 90000 : 1500);
            Due.tell(x, "need " + need + ";ill " + random.nextInt(700) + ";", 0);
            int weeks = round < 3 ? 8 : round < 12 ? 6 : 1 + random.nextInt(5);
            long all = 7L * need * mouths * weeks;
            int stock = (int) Math.min(99999999, all * (35 + random.nextInt(70)) / 100);
            int best = -1;
            for (int row = 0; row < 1 << (2 * weeks); row++) {
                if (better(x, weeks, stock, row, best)) best = row;
            }
            Due.due("ill of " + weeks + " weeks", x.plan(0, weeks, stock, 0), best < 0 ? NONE : x.judge(0, weeks, stock, best, 0));
            Due.due("left of " + weeks + " weeks", x.plan(0, weeks, stock, 1), best < 0 ? NONE : x.judge(0, weeks, stock, best, 1));
            for (int w = 0; w < weeks; w++) {
                int digit = best < 0 ? NONE : best >> (2 * (weeks - 1 - w)) & 3;
                Due.due("digit " + w + " of " + weeks, x.plan(0, weeks, stock, 10 + w), digit);
            }
        }
    }

    private static boolean better(HungerBooks x, int weeks, int stock, int row, int best) {
        int ill = x.judge(0, weeks, stock, row, 0);
        if (ill < 0 || best < 0) return ill >= 0;
        int bestIll = x.judge(0, weeks, stock, best, 0);
        return ill < bestIll || ill == bestIll && x.judge(0, weeks, stock, row, 1) > x.judge(0, weeks, stock, best, 1);
    }
}
