import java.util.Arrays;

/** The document's sentences one by one: ==== 4 and promises 26 to 37. */
public final class BoundsOfOfficeTest {
    private static final int NONE = HungerBooks.NONE;
    private static final int MIN = Integer.MIN_VALUE;
    private static final int MAX = Integer.MAX_VALUE;

    public static void main(String[] args) {
        office();
        farms();
        exchangeAndRounds();
        roadsAndWays();
        plans();
        fake();
        dead();
        shortOf();
        field();
        elsewhere();
        exchange();
        round();
        road();
        post();
        way();
        plan();
        judge();
        Sentences.end("BoundsOfOfficeTest");
    }

    /** TOWNS 0 and 1, each with a FARM and 300 smoke in its SHOP; HOUSES of three and two MOUTHS in 0, of two in 1. */
    private static HungerBooks market() {
        HungerBooks x = new HungerBooks();
        x.farm(0, 0);
        x.farm(0, 1);
        x.house(0, 3, 9999, NONE, 0);
        x.house(0, 2, 9999, 0, 0);
        x.house(1, 2, 9999, NONE, 0);
        Due.tell(x, "card smoke mouths;price smoke 1;", 0);
        for (int farm = 0; farm < 2; farm++) x.deliver(x.crop(farm, 5, 300), 300);
        return x;
    }

    private static void office() {
        Sentences.terms(4);
        Sentences.holds("THE OFFICE. FALSE ones: of a TOWN, WEEK and GOOD: pieces BOUGHT there less the CARDS of its HOUSES (as KNOWN by a DAY) together, 0 at least.", () -> {
            HungerBooks x = market();
            Due.due("none bought", x.fake(0, 0, 5, 0), 0);
            x.buy(0, 5, 3, false);
            x.buy(1, 5, 1, false);
            Due.due("one less than the cards", x.fake(0, 0, 5, 0), 0);
            x.buy(0, 5, 1, true);
            Due.due("just the cards", x.fake(0, 0, 5, 0), 0);
            x.buy(1, 5, 1, true);
            Due.due("one more", x.fake(0, 0, 5, 0), 1);
            x.buy(2, 5, 9, true);
            Due.due("the other town's", x.fake(1, 0, 5, 0), 7);
            Due.due("not here", x.fake(0, 0, 5, 0), 1);
            x.deal(4, 3, 2, 0);
            Due.due("where it was bought, not where it is", x.fake(0, 0, 5, 0), 1);
            Due.due("and not there", x.fake(1, 0, 5, 0), 7);
            x.pass(6);
            x.buy(0, 5, 1, true);
            Due.due("the week's last day", x.fake(0, 0, 5, 0), 2);
            x.pass(1);
            x.die(0);
            x.buy(0, 5, 6, true);
            x.pass(1);
            x.hear(0);
            Due.due("the next week", x.fake(0, 1, 5, 7), 1);
            Due.due("as known a day later", x.fake(0, 1, 5, 8), 2);
            Due.due("week 0 stays", x.fake(0, 0, 5, 399), 2);
            Due.tell(x, "", 1);
            Due.due("no cards as known today", x.fake(0, 1, 5, 8), 6);
            Due.due("a town without houses", x.fake(5, 0, 5, 0), 0);
        });
        Sentences.holds("FOR THE DEAD: of a HOUSE, WEEK and GOOD: pieces BOUGHT on TICKETS less what the CARD would be if all deaths so far were KNOWN (as KNOWN TODAY else), 0 at least.", () -> {
            HungerBooks x = market();
            x.buy(0, 5, 50, true);
            Due.due("forged ones alone", x.dead(0, 0, 5), 0);
            x.buy(0, 5, 2, false);
            x.die(0);
            Due.due("just what the living may", x.dead(0, 0, 5), 0);
            x.buy(0, 5, 1, false);
            Due.due("one more", x.dead(0, 0, 5), 1);
            x.die(0);
            Due.due("two more", x.dead(0, 0, 5), 2);
            x.hear(0);
            Due.due("heard of or not", x.dead(0, 0, 5), 2);
            Due.due("another house's", x.dead(1, 0, 5), 0);
            x.pass(1);
            x.buy(1, 5, 2, false);
            x.die(1);
            Due.due("dead behind the week's first day", x.dead(1, 0, 5), 0);
            x.pass(6);
            x.buy(1, 5, 2, false);
            Due.due("in the next week", x.dead(1, 1, 5), 1);
            Due.tell(x, "", 1);
            Due.due("by orders as known today", x.dead(1, 1, 5), 2);
            Due.due("week 0 by its own", x.dead(0, 0, 5), 2);
        });
    }

    private static void farms() {
        Sentences.holds("SHORT: of a FARM, WEEK and GOOD: QUOTA (as KNOWN by a DAY) less what it DELIVERED in that WEEK, 0 at least.", () -> {
            HungerBooks x = new HungerBooks();
            x.farm(0, 0);
            x.farm(0, 0);
            Due.tell(x, "quota smoke 10;", 0);
            x.crop(0, 5, 99);
            Due.due("nothing delivered", x.shortOf(0, 0, 5, 0), 10);
            x.deliver(0, 9);
            Due.due("one short", x.shortOf(0, 0, 5, 0), 1);
            x.deliver(0, 1);
            Due.due("none short", x.shortOf(0, 0, 5, 0), 0);
            x.deliver(0, 1);
            Due.due("one above", x.shortOf(0, 0, 5, 0), 0);
            Due.due("another farm", x.shortOf(1, 0, 5, 0), 10);
            Due.due("another good", x.shortOf(0, 0, 4, 0), 0);
            Due.due("another week", x.shortOf(0, 1, 5, 0), 10);
            x.pass(6);
            x.deliver(0, 1);
            x.pass(1);
            x.deliver(0, 2);
            Due.due("the next week", x.shortOf(0, 1, 5, 7), 8);
            Due.tell(x, "quota smoke 20;", 0);
            Due.due("as known today, 12 of week 0", x.shortOf(0, 0, 5, 7), 8);
            Due.due("as known ahead", x.shortOf(0, 0, 5, 6), 0);
            Due.due("a week to come", x.shortOf(0, 57, 5, 7), 20);
        });
        Sentences.holds("FIELDS: of a FARM and GOOD from so many to so many pieces must come a WEEK (0 to 9,999 each; 0, 0 at first).", () -> {
            HungerBooks x = new HungerBooks();
            x.farm(0, 0);
            Due.due("the least at first", x.elsewhere(0, 0, 0, 57, 0), 0);
            Due.due("the most at first", x.elsewhere(0, 0, 0, 57, 1), 0);
            int[][] rows = {{0, 0}, {0, 9999}, {9999, 9999}, {1, 1}, {0, 1}, {9998, 9999}};
            for (int[] r : rows) {
                Due.due("field " + Arrays.toString(r), x.field(0, 0, r[0], r[1]), true);
                Due.due("least " + Arrays.toString(r), x.elsewhere(0, 0, 3, 3, 0), r[0]);
                Due.due("most " + Arrays.toString(r), x.elsewhere(0, 0, 3, 3, 1), r[1]);
            }
        });
        Sentences.holds("ELSEWHERE in WEEKS a to b: least: what must have come less all DELIVERED in these WEEKS; most: what may have come less that; 0 at least each.", () -> {
            HungerBooks x = new HungerBooks();
            x.farm(0, 0);
            x.farm(0, 0);
            x.field(0, 5, 4, 7);
            x.field(1, 5, 4, 7);
            x.crop(0, 5, 99);
            x.pass(6);
            x.deliver(0, 4);
            x.pass(1);
            x.deliver(0, 6);
            int[][] rows = {{0, 0, 0, 0}, {0, 0, 1, 3}, {1, 1, 0, 0}, {1, 1, 1, 1}, {0, 1, 0, 0}, {0, 1, 1, 4}, {0, 2, 0, 2}, {0, 2, 1, 11},
                {2, 2, 0, 4}, {2, 2, 1, 7}, {0, 57, 0, 222}, {0, 57, 1, 396}, {57, 57, 1, 7}};
            for (int[] r : rows) Due.due("elsewhere " + Arrays.toString(r), x.elsewhere(0, 5, r[0], r[1], r[2]), r[3]);
            Due.due("another farm's", x.elsewhere(1, 5, 0, 1, 0), 8);
            Due.due("another good's", x.elsewhere(0, 4, 0, 1, 1), 0);
        });
    }

    private static void exchangeAndRounds() {
        Sentences.holds("EXCHANGE: at 12 desks: coins (2 t) and smoke (2 t and 1) of TOWN t: so many (1 to 99) of one give so many (1 to 99) of another one", () -> {
            HungerBooks x = new HungerBooks();
            Due.due("the first and the last desk", x.exchange(0, 11, 1, 99), true);
            Due.due("and back", x.exchange(11, 0, 99, 2), true);
            Due.due("198 by 99", x.round(0, 0), 2000);
            int[][] wrong = {{-1, 0, 1, 1}, {0, -1, 1, 1}, {12, 0, 1, 1}, {0, 12, 1, 1}, {0, 1, 0, 1}, {0, 1, 100, 1}, {0, 1, 1, 100}};
            for (int[] w : wrong) Due.due("exchange " + Arrays.toString(w), x.exchange(w[0], w[1], w[2], w[3]), false);
        });
        Sentences.holds("(told again: in place of what was).", () -> {
            HungerBooks x = new HungerBooks();
            x.exchange(3, 4, 1, 5);
            x.exchange(4, 3, 1, 1);
            Due.due("gain", x.round(3, 0), 5000);
            x.exchange(3, 4, 2, 5);
            Due.due("gain", x.round(3, 0), 2500);
            x.exchange(4, 3, 1, 2);
            Due.due("the other way by itself", x.round(3, 0), 5000);
        });
        Sentences.holds("ROUND from a desk: of all ways of 2 or 3 steps over other unlike desks back to it that of the greatest gain (what each step gives by what it takes, times one another), if it's above 1", () -> {
            HungerBooks x = new HungerBooks();
            x.exchange(0, 1, 3, 4);
            x.exchange(1, 0, 4, 3);
            Due.due("a gain of just 1", x.round(0, 0), NONE);
            x.exchange(1, 0, 99, 75);
            Due.due("300 by 297", x.round(0, 0), 1010);
            x.exchange(1, 0, 99, 74);
            Due.due("296 by 297", x.round(0, 0), NONE);
            x.exchange(1, 2, 5, 6);
            x.exchange(2, 0, 7, 8);
            Due.due("4 by 3, 6 by 5, 8 by 7", x.round(0, 0), 1828);
            Due.due("three steps", x.round(0, 1), 3);
            x.exchange(1, 0, 1, 2);
            Due.due("8 by 3, two steps", x.round(0, 0), 2666);
            Due.due("two steps", x.round(0, 1), 2);
            HungerBooks close = new HungerBooks();
            close.exchange(0, 1, 2, 3);
            close.exchange(1, 0, 1, 1);
            close.exchange(0, 2, 3, 5);
            close.exchange(2, 0, 1, 1);
            Due.due("5 by 3 is above 3 by 2", close.round(0, 0), 1666);
            close.exchange(0, 2, 3, 4);
            Due.due("4 by 3 is not", close.round(0, 0), 1500);
            HungerBooks four = new HungerBooks();
            for (int k = 0; k < 4; k++) four.exchange(k, (k + 1) % 4, 1, 99);
            Due.due("four steps are none", four.round(0, 0), NONE);
            HungerBooks twice = new HungerBooks();
            twice.exchange(0, 1, 1, 1);
            twice.exchange(1, 0, 1, 1);
            twice.exchange(1, 2, 1, 99);
            twice.exchange(2, 1, 1, 99);
            Due.due("not over a desk twice", twice.round(0, 0), NONE);
            Due.due("from the desk itself", twice.round(1, 0), 9801000);
        });
        Sentences.holds("of several that of fewer steps, then the least desks.", () -> {
            HungerBooks x = new HungerBooks();
            x.exchange(5, 0, 1, 2);
            x.exchange(0, 1, 1, 1);
            x.exchange(1, 5, 1, 1);
            x.exchange(5, 11, 1, 1);
            x.exchange(11, 5, 1, 2);
            Due.due("fewer steps ahead of lesser desks", x.round(5, 1), 2);
            Due.due("over desk 11", x.round(5, 10), 11);
            x.exchange(5, 10, 2, 1);
            x.exchange(10, 5, 1, 4);
            Due.due("over desk 10", x.round(5, 10), 10);
            x.exchange(11, 5, 1, 1);
            x.exchange(10, 5, 1, 1);
            x.exchange(0, 2, 1, 1);
            x.exchange(2, 5, 1, 1);
            Due.due("three steps by desk 0", x.round(5, 10), 0);
            Due.due("then by 1, not 2", x.round(5, 11), 1);
            x.exchange(1, 5, 1, 0);
            Due.due("then by 2", x.round(5, 11), 2);
            x.exchange(5, 4, 1, 2);
            x.exchange(4, 0, 1, 1);
            x.exchange(0, 5, 1, 0);
            Due.due("none over 4 and 0", x.round(5, 10), 0);
            x.exchange(4, 1, 1, 1);
            x.exchange(1, 5, 1, 1);
            Due.due("0 and 1 ahead of 4 and 1", x.round(5, 10) * 100 + x.round(5, 11), 1);
            x.exchange(5, 0, 1, 0);
            Due.due("4 and 1", x.round(5, 10) * 100 + x.round(5, 11), 401);
            x.exchange(4, 1, 1, 0);
            x.exchange(0, 5, 1, 1);
            Due.due("4 and 0", x.round(5, 10) * 100 + x.round(5, 11), 400);
            HungerBooks y = new HungerBooks();
            y.exchange(5, 0, 1, 2);
            y.exchange(0, 1, 1, 1);
            y.exchange(1, 5, 1, 1);
            y.exchange(0, 5, 1, 1);
            Due.due("two steps by desk 0 ahead of three by 0 and 1", y.round(5, 1), 2);
        });
        Sentences.holds("Gain is told in thousandths, cut.", () -> {
            int[][] rows = {{99, 98, 1010}, {3, 2, 1500}, {5, 3, 1666}, {99, 1, 99000}, {2, 1, 2000}, {8, 7, 1142}};
            for (int[] r : rows) {
                HungerBooks x = new HungerBooks();
                x.exchange(0, 1, 1, r[0]);
                x.exchange(1, 0, r[1], 1);
                Due.due(r[0] + " by " + r[1], x.round(0, 0), r[2]);
            }
            HungerBooks x = new HungerBooks();
            x.exchange(0, 1, 99, 98);
            x.exchange(1, 2, 98, 97);
            x.exchange(2, 0, 96, 99);
            // 98 times 97 times 99 by 99 times 98 times 96: 97 by 96.
            Due.due("97 by 96", x.round(0, 0), 1010);
            HungerBooks most = new HungerBooks();
            for (int k = 0; k < 3; k++) most.exchange(k, (k + 1) % 3, 1, 99);
            Due.due("the most", most.round(2, 0), 970299000);
            HungerBooks least = new HungerBooks();
            least.exchange(0, 1, 97, 98);
            least.exchange(1, 2, 98, 99);
            least.exchange(2, 0, 98, 97);
            Due.due("99 by 98, hardly above 1", least.round(0, 0), 1010);
            HungerBooks hardly = new HungerBooks();
            hardly.exchange(0, 1, 97, 98);
            hardly.exchange(1, 2, 89, 95);
            hardly.exchange(2, 0, 96, 89);
            // 98 times 95 times 89 by 97 times 89 times 96: 9,310 by 9,312.
            Due.due("hardly below 1", hardly.round(0, 0), NONE);
            hardly.exchange(2, 0, 95, 89);
            hardly.exchange(0, 1, 98, 99);
            hardly.exchange(1, 2, 89, 95);
            // 99 by 98 of 95 by 89 of 89 by 95.
            Due.due("99 by 98", hardly.round(0, 0), 1010);
            hardly.exchange(0, 1, 98, 97);
            hardly.exchange(1, 2, 96, 97);
            hardly.exchange(2, 0, 1, 1);
            // 97 times 97 by 98 times 96: 9,409 by 9,408, told as 1,000 and yet above 1.
            Due.due("hardly above 1", hardly.round(0, 0), 1000);
        });
    }

    private static void roadsAndWays() {
        Sentences.holds("ROADS between PLACES of miles 1 to 99 (0: none)", () -> {
            HungerBooks x = new HungerBooks();
            for (int miles : new int[] {1, 99, 50}) {
                Due.due("road of " + miles, x.road(0, 15, miles), true);
                Due.due("miles", x.way(0, 0, 15, 1), miles);
                Due.due("miles back", x.way(0, 15, 0, 1), miles);
            }
            Due.due("-1", x.road(0, 15, -1), false);
            Due.due("100", x.road(0, 15, 100), false);
            Due.due("it stays", x.way(0, 0, 15, 1), 50);
            Due.due("none", x.road(15, 0, 0), true);
            Due.due("no way", x.way(0, 0, 15, 1), NONE);
        });
        Sentences.holds("POSTS, up to 20: on a ROAD on each DAY that leaves r divided by m (1 to 9).", () -> {
            for (int m = 1; m <= 9; m++) {
                for (int r = 0; r < m; r++) {
                    HungerBooks x = new HungerBooks();
                    x.road(0, 1, 1);
                    x.post(0, 1, m, r);
                    for (int day : new int[] {0, 1, 8, 9, 10, 62, 63, 398, 399}) {
                        Due.due("post of " + m + ", " + r + " on day " + day, x.way(day, 1, 0, 0), day % m == r ? 1 : 0);
                    }
                }
            }
            HungerBooks x = new HungerBooks();
            x.road(0, 1, 1);
            for (int k = 1; k <= 20; k++) Due.due("post", x.post(0, 1, 1, 0), k);
            Due.due("the 21st", x.post(0, 1, 1, 0), NONE);
            x.road(0, 1, 0);
            Due.due("posts without a road are no way", x.way(0, 0, 1, 0), NONE);
            Due.due("nor back", x.way(0, 1, 0, 1), NONE);
        });
        Sentences.holds("A WAY on a DAY from a PLACE to another: of all by ROADS that past the fewest POSTS (a POST on each ROAD and DAY counts by itself)", () -> {
            HungerBooks x = new HungerBooks();
            x.road(0, 1, 1);
            x.road(1, 2, 1);
            x.road(0, 3, 99);
            x.road(3, 4, 99);
            x.road(4, 2, 99);
            Due.due("no post", x.way(0, 0, 2, 1), 2);
            x.post(0, 1, 2, 0);
            Due.due("past it", x.way(0, 0, 2, 1), 297);
            Due.due("no post then", x.way(0, 0, 2, 0), 0);
            Due.due("another day", x.way(1, 0, 2, 1), 2);
            x.post(1, 0, 2, 0);
            x.post(3, 4, 1, 0);
            Due.due("two on one road, one on the other way", x.way(0, 0, 2, 0), 1);
            Due.due("its miles", x.way(0, 0, 2, 1), 297);
            x.post(4, 2, 1, 0);
            x.post(3, 0, 4, 0);
            Due.due("two and three", x.way(0, 0, 2, 0), 2);
            Due.due("two and two of fewer miles", x.way(2, 0, 2, 1), 2);
            Due.due("to itself no post", x.way(0, 0, 0, 0), 0);
            Due.due("no road there", x.way(0, 0, 15, 0), NONE);
            // Twenty posts on the one road weigh more than 14 roads of 99 miles.
            HungerBooks y = new HungerBooks();
            for (int k = 0; k < 15; k++) y.road(k, k + 1, 99);
            y.road(0, 15, 1);
            Due.due("the short road", y.way(0, 0, 15, 1), 1);
            for (int k = 0; k < 20; k++) y.post(0, 15, 1, 0);
            Due.due("all around", y.way(0, 0, 15, 1), 1485);
            y.road(7, 8, 0);
            Due.due("past all twenty", y.way(0, 0, 15, 0), 20);
            Due.due("one mile", y.way(0, 0, 15, 1), 1);
        });
        Sentences.holds("of these of the fewest miles.", () -> {
            HungerBooks x = new HungerBooks();
            x.road(0, 1, 10);
            x.road(0, 2, 4);
            x.road(2, 1, 5);
            Due.due("nine of two roads", x.way(0, 0, 1, 1), 9);
            x.road(2, 1, 7);
            Due.due("ten of one", x.way(0, 0, 1, 1), 10);
            x.post(0, 1, 1, 0);
            x.post(0, 2, 1, 0);
            Due.due("both past one post", x.way(0, 0, 1, 1), 10);
            x.road(2, 3, 1);
            x.road(3, 1, 1);
            Due.due("six of three roads", x.way(0, 1, 0, 1), 6);
        });
    }

    /** TOWN 0: a HOUSE of one MOUTH; of 7,000 are given 2,800, 4,200, 5,600, 7,000; ILL above 3,000. */
    private static HungerBooks oneMouth(int garden) {
        HungerBooks x = new HungerBooks();
        x.house(0, 1, 0, NONE, garden);
        return x;
    }

    private static void plans() {
        Sentences.holds("PLAN of a TOWN for n WEEKS (1 to 8) with a stock of measures: in each WEEK each HOUSE is given 40, 60, 80 or 100 hundredths (0 to 3) of 7 times NEED (TODAY's) times MOUTHS (TODAY), cut", () -> {
            HungerBooks x = oneMouth(0);
            for (int d = 0; d < 4; d++) Due.due("given by digit " + d, 7000 - x.judge(0, 1, 7000, d, 1), 2800 + 1400 * d);
            Due.due("no week", x.plan(0, 0, 99999, 0), NONE);
            Due.due("one week", x.plan(0, 1, 99999, 0), 0);
            Due.due("eight weeks", x.plan(0, 8, 99999, 0), 0);
            Due.due("nine weeks", x.plan(0, 9, 99999, 0), NONE);
            x.house(0, 9, 0, NONE, 0);
            x.house(1, 9, 0, NONE, 0);
            Due.due("two houses", x.judge(0, 1, 70000, 3, 1), 0);
            x.die(1);
            Due.due("the living", x.judge(0, 1, 70000, 3, 1), 7000);
            Due.tell(x, "need 1;", 0);
            Due.tell(x, "need 999999;", 1);
            // Of 7 and of 56: 2 and 22, 4 and 33, 5 and 44, 7 and 56.
            int[] given = {24, 37, 49, 63};
            for (int d = 0; d < 4; d++) Due.due("cut by digit " + d, 100 - x.judge(0, 1, 100, d, 1), given[d]);
            x.pass(7);
            Due.due("the next week's need", x.judge(0, 1, 99999999, 3, 1), 99999999 - 7 * 9 * 999999);
            HungerBooks most = new HungerBooks();
            for (int k = 0; k < 24; k++) most.house(0, 9, 0, NONE, 0);
            Due.tell(most, "need 999999;", 0);
            for (int d = 0; d < 4; d++) Due.due("far above the stock", most.judge(0, 1, 99999999, d, 0), NONE);
            Due.due("no row of eight", most.judge(0, 8, 99999999, 65535, 1), NONE);
            Due.due("no plan", most.plan(0, 8, 99999999, 0), NONE);
        });
        Sentences.holds("all together at most what is left of the stock.", () -> {
            HungerBooks x = oneMouth(0);
            Due.due("one short", x.judge(0, 2, 13999, 15, 1), NONE);
            Due.due("just enough", x.judge(0, 2, 14000, 15, 1), 0);
            Due.due("one left", x.judge(0, 2, 14001, 15, 1), 1);
            Due.due("a plan one short", x.plan(0, 3, 8399, 0), NONE);
            Due.due("a plan just enough", x.plan(0, 3, 8400, 1), 0);
            HungerBooks empty = new HungerBooks();
            Due.due("no houses, no stock", empty.plan(0, 8, 0, 0), 0);
            Due.due("a row of no houses", empty.judge(0, 8, 0, 65535, 1), 0);
        });
        Sentences.holds("A HOUSE LACKS in a WEEK what is missing to all of that behind its GARDEN, 0 at least", () -> {
            // ILL 0: any lack is above it.
            int[][] rows = {{4199, 1, 0}, {4200, 0, 0}, {4201, 0, 0}, {99999, 0, 0}, {2799, 1, 1}, {2800, 0, 1}, {1399, 1, 2}, {1400, 0, 2},
                {0, 0, 3}};
            for (int[] r : rows) {
                HungerBooks x = oneMouth(r[0]);
                Due.tell(x, "ill 0;", 0);
                Due.due("garden and ill by digit " + Arrays.toString(r), x.judge(0, 1, 9999, r[2], 0), r[1]);
            }
            HungerBooks x = oneMouth(9000);
            Due.tell(x, "ill 0;", 0);
            Due.due("what a garden gives too much helps no other week", x.judge(0, 2, 99999, 0, 0), 0);
            HungerBooks y = oneMouth(3000);
            Due.tell(y, "ill 119;", 0);
            // 0 lacks 1,200, and 3 none: what is left of the garden in that week does not count.
            Due.due("above 1,190 in both", y.judge(0, 2, 99999, 3, 0), 2);
        });
        Sentences.holds("it's ILL in it if what it LACKS in it and the WEEK ahead (none ahead of the first) together times 100 is above ILL (TODAY's) times NEED times MOUTHS.", () -> {
            HungerBooks x = oneMouth(0);
            int[][] first = {{279, 1}, {280, 0}, {281, 0}};
            for (int[] r : first) {
                Due.tell(x, "ill " + r[0] + ";", 0);
                Due.due("2,800 against ill " + r[0], x.judge(0, 1, 9999, 1, 0), r[1]);
            }
            int[][] second = {{419, 1}, {420, 0}};
            for (int[] r : second) {
                Due.tell(x, "ill " + r[0] + ";", 0);
                Due.due("2,800 and 1,400 against ill " + r[0], x.judge(0, 2, 99999, 6, 0), r[1]);
                Due.due("1,400 and 2,800 against ill " + r[0], x.judge(0, 2, 99999, 9, 0), r[1]);
            }
            Due.tell(x, "ill 280;", 0);
            Due.due("a whole week behind 4,200", x.judge(0, 2, 99999, 3, 0), 2);
            Due.due("two weeks behind it not", x.judge(0, 3, 99999, 15, 0), 2);
            Due.tell(x, "ill 0;", 1);
            Due.due("today's", x.judge(0, 1, 9999, 1, 0), 0);
            x.pass(7);
            Due.due("today's in week 1", x.judge(0, 1, 9999, 2, 0), 1);
            HungerBooks y = new HungerBooks();
            y.house(0, 3, 0, NONE, 0);
            y.die(0);
            Due.tell(y, "need 5;ill 280;", 0);
            // 70 are wanted; 28, 42, 56, 70 given lack 42, 28, 14, 0; ILL above 28.
            Due.due("28 of two mouths", y.judge(0, 1, 99, 1, 0), 0);
            Due.due("42 of two mouths", y.judge(0, 1, 99, 0, 0), 1);
            HungerBooks great = oneMouth(0);
            Due.tell(great, "need 999999;ill 999999;", 0);
            Due.due("great numbers", great.judge(0, 8, 99999999, 0, 0), 0);
        });
        Sentences.holds("Of all rows of n the fewest ILL (HOUSES times WEEKS), then the most stock left, then the least row.", () -> {
            HungerBooks x = oneMouth(0);
            Due.due("no row", x.plan(0, 2, 5599, 0), NONE);
            planned(x, 5600, 2, 0, 0, 0);
            planned(x, 6999, 2, 1399, 0, 0);
            planned(x, 7000, 1, 0, 1, 0);
            planned(x, 11199, 1, 4199, 1, 0);
            // 1 3, 2 2 and 3 1 are given alike; none of them is ill.
            planned(x, 11200, 0, 0, 1, 3);
            planned(x, 99999999, 0, 99988799, 1, 3);
            // 1 3 0, 2 2 0 and 3 1 0 are given alike.
            planned(x, 15399, 1, 1399, 1, 3, 0);
            planned(x, 15400, 0, 0, 1, 3, 1);
            // 2, 4, 5, 7 are given, 5, 3, 2, 0 lack: 2 2 leaves more than 1 3.
            Due.tell(x, "need 1;ill 400;", 0);
            planned(x, 9, 1, 3, 1, 0);
            planned(x, 10, 0, 0, 2, 2);
            planned(x, 11, 0, 1, 2, 2);
            Due.tell(x, "need 1;ill 300;", 0);
            planned(x, 11, 0, 0, 1, 3);
            HungerBooks two = oneMouth(0);
            two.house(0, 1, 0, NONE, 99999);
            // The second house is never ill; what is given counts twice.
            Due.due("no row of one week", two.plan(0, 1, 5599, 0), NONE);
            planned(two, 8399, 1, 2799, 0);
            planned(two, 8400, 0, 0, 1);
            HungerBooks both = oneMouth(0);
            both.house(0, 9, 0, NONE, 0);
            Due.due("no row of both", both.plan(0, 1, 27999, 0), NONE);
            planned(both, 41999, 2, 13999, 0);
            planned(both, 42000, 0, 0, 1);
            HungerBooks full = new HungerBooks();
            for (int k = 0; k < 24; k++) full.house(0, 1, 0, NONE, 0);
            Due.due("no row of 24 houses", full.plan(0, 8, 24 * 22400 - 1, 0), NONE);
            planned(full, 24 * 22400, 192, 0, 0, 0, 0, 0, 0, 0, 0, 0);
            planned(full, 24 * 44800, 0, 0, 1, 3, 1, 3, 1, 3, 1, 3);
            HungerBooks gardens = new HungerBooks();
            for (int k = 0; k < 24; k++) gardens.house(0, 1, 0, NONE, 4200);
            planned(gardens, 99999999, 0, 99999999 - 24 * 22400, 0, 0, 0, 0, 0, 0, 0, 0);
        });
        Sentences.holds("A ROW is judged as a number: the first WEEK's digit times 4 to the power of n less 1, and so on.", () -> {
            HungerBooks x = oneMouth(0);
            int row = 0;
            int given = 0;
            int[] digits = {3, 0, 1, 2, 3, 1, 0, 2};
            for (int d : digits) {
                row = row * 4 + d;
                given += 2800 + 1400 * d;
            }
            Due.due("stock left", x.judge(0, 8, 99999, row, 1), 99999 - given);
            Due.due("3, 0: ill in the second", x.judge(0, 2, 99999, 12, 0), 1);
            Due.due("0, 3: ill in both", x.judge(0, 2, 99999, 3, 0), 2);
            Due.due("the first week of eight: ill in the first two", x.judge(0, 8, 99999, 65535 - 3 * 16384, 0), 2);
            Due.due("the last week of eight: ill in the last", x.judge(0, 8, 99999, 65532, 0), 1);
        });
    }

    /** ILL, the stock left and the digits of TOWN 0's plan. */
    private static void planned(HungerBooks x, int stock, int ill, int left, int... digits) {
        int weeks = digits.length;
        Due.due("ill with " + stock, x.plan(0, weeks, stock, 0), ill);
        Due.due("left of " + stock, x.plan(0, weeks, stock, 1), left);
        for (int w = 0; w < weeks; w++) Due.due("digit " + w + " with " + stock, x.plan(0, weeks, stock, 10 + w), digits[w]);
    }

    private static void fake() {
        Sentences.promise(26);
        Sentences.holds("FALSE ones.", () -> {
            HungerBooks x = new HungerBooks();
            Answers.land(x);
            // Seven were bought in town 0; the cards are 6 and 2, less 2 when a death of day 0 was heard of on day 1.
            Due.due("as known by day 0", x.fake(0, 0, 0, 0), 0);
            Due.due("as known by day 1", x.fake(0, 0, 0, 1), 1);
            Due.due("as known by day 399", x.fake(0, 0, 0, 399), 1);
            Due.due("the last town and week", x.fake(5, 57, 5, 399), 0);
        });
        Sentences.holds("NONE: none such.", () -> {
            HungerBooks x = new HungerBooks();
            Answers.land(x);
            for (int town : new int[] {MIN, -1, 6, MAX}) Due.due("town " + town, x.fake(town, 0, 0, 0), NONE);
            for (int week : new int[] {MIN, -1, 58, MAX}) Due.due("week " + week, x.fake(0, week, 0, 0), NONE);
            for (int good : new int[] {MIN, -1, 6, MAX}) Due.due("good " + good, x.fake(0, 0, good, 0), NONE);
            for (int known : new int[] {MIN, -1, 400, MAX}) Due.due("known " + known, x.fake(0, 0, 0, known), NONE);
        });
    }

    private static void dead() {
        Sentences.promise(27);
        Sentences.holds("FOR THE DEAD.", () -> {
            HungerBooks x = new HungerBooks();
            Answers.land(x);
            Due.due("four on tickets for two mouths", x.dead(0, 0, 0), 0);
            x.die(0);
            Due.due("the second died on day 1", x.dead(0, 0, 0), 0);
            Due.due("none bought", x.dead(2, 57, 5), 0);
            HungerBooks y = market();
            y.buy(1, 5, 2, false);
            y.die(1);
            Due.due("two on tickets for one mouth", y.dead(1, 0, 5), 1);
        });
        Sentences.holds("NONE: none such.", () -> {
            HungerBooks x = new HungerBooks();
            Answers.land(x);
            for (int house : new int[] {MIN, -1, 3, 24, 100, MAX}) Due.due("house " + house, x.dead(house, 0, 0), NONE);
            for (int week : new int[] {MIN, -1, 58, MAX}) Due.due("week " + week, x.dead(0, week, 0), NONE);
            for (int good : new int[] {MIN, -1, 6, MAX}) Due.due("good " + good, x.dead(0, 0, good), NONE);
        });
    }

    private static void shortOf() {
        Sentences.promise(28);
        Sentences.holds("SHORT.", () -> {
            HungerBooks x = new HungerBooks();
            Answers.land(x);
            int[][] rows = {{0, 0, 4, 0, 15}, {0, 0, 0, 0, 0}, {1, 0, 0, 0, 0}, {1, 57, 0, 399, 9}, {0, 0, 5, 0, 0}};
            for (int[] r : rows) Due.due("short " + Arrays.toString(r), x.shortOf(r[0], r[1], r[2], r[3]), r[4]);
        });
        Sentences.holds("NONE: none such.", () -> {
            HungerBooks x = new HungerBooks();
            Answers.land(x);
            for (int farm : new int[] {MIN, -1, 2, 10, 100, MAX}) Due.due("farm " + farm, x.shortOf(farm, 0, 0, 0), NONE);
            for (int week : new int[] {MIN, -1, 58, MAX}) Due.due("week " + week, x.shortOf(0, week, 0, 0), NONE);
            for (int good : new int[] {MIN, -1, 6, MAX}) Due.due("good " + good, x.shortOf(0, 0, good, 0), NONE);
            for (int known : new int[] {MIN, -1, 400, MAX}) Due.due("known " + known, x.shortOf(0, 0, 0, known), NONE);
        });
    }

    private static void field() {
        Sentences.promise(29);
        Sentences.holds("FIELDS: true", () -> {
            HungerBooks x = new HungerBooks();
            Answers.land(x);
            Due.due("of the last farm and good", x.field(1, 5, 9999, 9999), true);
            Due.due("they are those", x.elsewhere(1, 5, 0, 0, 0), 9999);
            Due.due("the other's stay", x.elsewhere(0, 4, 0, 0, 1), 40);
            Due.due("told again", x.field(0, 4, 0, 0), true);
            Due.due("in place of what was", x.elsewhere(0, 4, 0, 0, 1), 0);
        });
        Sentences.holds("false: not as told (from above to, too).", () -> {
            int[][] wrong = {{-1, 0, 0, 0}, {2, 0, 0, 0}, {100, 0, 0, 0}, {MIN, 0, 0, 0}, {MAX, 0, 0, 0}, {0, -1, 0, 0}, {0, 6, 0, 0},
                {0, MIN, 0, 0}, {0, MAX, 0, 0}, {0, 4, -1, 5}, {0, 4, MIN, 5}, {0, 4, 5, 10000}, {0, 4, 5, MAX}, {0, 4, 10000, 10000},
                {0, 4, 1, 0}, {0, 4, 9999, 9998}, {0, 4, 0, -1}, {0, 4, -2, -1}};
            for (int[] w : wrong) {
                Answers.unchanged("field " + Arrays.toString(w), Answers::land, x -> x.field(w[0], w[1], w[2], w[3]) ? 1 : 0, 0);
            }
        });
    }

    private static void elsewhere() {
        Sentences.promise(30);
        Sentences.holds("ELSEWHERE in WEEKS a to b (0 to 57, a at most b): the least (what 0), the most (1).", () -> {
            HungerBooks x = new HungerBooks();
            Answers.land(x);
            x.field(1, 0, 10, 30);
            // Twenty were delivered in week 0.
            int[][] rows = {{0, 0, 0, 0}, {0, 0, 1, 10}, {57, 57, 0, 10}, {57, 57, 1, 30}, {0, 57, 0, 560}, {0, 57, 1, 1720}, {0, 2, 0, 10}};
            for (int[] r : rows) Due.due("elsewhere " + Arrays.toString(r), x.elsewhere(1, 0, r[0], r[1], r[2]), r[3]);
            x.field(1, 1, 9999, 9999);
            Due.due("the most there is", x.elsewhere(1, 1, 0, 57, 1), 58 * 9999);
        });
        Sentences.holds("NONE: none such.", () -> {
            HungerBooks x = new HungerBooks();
            Answers.land(x);
            for (int farm : new int[] {MIN, -1, 2, 10, 100, MAX}) Due.due("farm " + farm, x.elsewhere(farm, 4, 0, 0, 1), NONE);
            for (int good : new int[] {MIN, -1, 6, MAX}) Due.due("good " + good, x.elsewhere(0, good, 0, 0, 1), NONE);
            int[][] wrong = {{-1, 0}, {MIN, 0}, {0, 58}, {0, MAX}, {58, 58}, {1, 0}, {57, 56}, {-2, -1}, {MIN, MAX}};
            for (int[] w : wrong) Due.due("weeks " + Arrays.toString(w), x.elsewhere(0, 4, w[0], w[1], 1), NONE);
            for (int what : new int[] {MIN, -1, 2, MAX}) Due.due("what " + what, x.elsewhere(0, 4, 0, 0, what), NONE);
        });
    }

    private static void exchange() {
        Sentences.promise(31);
        Sentences.holds("EXCHANGE (give 0: none any more): true", () -> {
            HungerBooks x = new HungerBooks();
            Due.due("the least", x.exchange(0, 11, 1, 1), true);
            Due.due("the most", x.exchange(11, 0, 99, 99), true);
            Due.due("no gain", x.round(0, 0), NONE);
            x.exchange(0, 11, 1, 2);
            Due.due("gain", x.round(0, 0), 2000);
            Due.due("none any more", x.exchange(11, 0, 99, 0), true);
            Due.due("no round", x.round(0, 0), NONE);
            Due.due("none once more", x.exchange(11, 0, 1, 0), true);
            Due.due("anew", x.exchange(11, 0, 1, 1), true);
            Due.due("a round again", x.round(11, 0), 2000);
        });
        Sentences.holds("false: not as told", () -> {
            int[][] wrong = {{-1, 0, 1, 9}, {12, 0, 1, 9}, {MIN, 0, 1, 9}, {MAX, 0, 1, 9}, {0, -1, 1, 9}, {0, 12, 1, 9}, {0, MIN, 1, 9},
                {0, MAX, 1, 9}, {0, 1, 0, 9}, {0, 1, -1, 9}, {0, 1, 100, 9}, {0, 1, MIN, 9}, {0, 1, MAX, 9}, {0, 1, 1, -1}, {0, 1, 1, 100},
                {0, 1, 1, MIN}, {0, 1, 1, MAX}};
            for (int[] w : wrong) {
                Answers.unchanged("exchange " + Arrays.toString(w), Answers::land, x -> x.exchange(w[0], w[1], w[2], w[3]) ? 1 : 0, 0);
            }
        });
        Sentences.holds("alike.", () -> {
            for (int desk = 0; desk < 12; desk++) {
                int both = desk;
                Answers.unchanged("exchange at desk " + desk, Answers::land, x -> x.exchange(both, both, 1, 2) ? 1 : 0, 0);
            }
        });
    }

    private static void round() {
        Sentences.promise(32);
        Sentences.holds("ROUND: gain (what 0), steps (1), 10 + k the k-th desk behind the first (k from 0 on, below steps less 1).", () -> {
            HungerBooks x = new HungerBooks();
            Answers.land(x);
            int[][] two = {{0, 1500}, {1, 2}, {10, 1}, {11, NONE}, {12, NONE}};
            for (int[] r : two) Due.due("of two steps, " + r[0], x.round(0, r[0]), r[1]);
            x.exchange(0, 10, 1, 2);
            x.exchange(10, 11, 1, 3);
            x.exchange(11, 0, 1, 4);
            int[][] three = {{0, 24000}, {1, 3}, {10, 10}, {11, 11}, {12, NONE}};
            for (int[] r : three) Due.due("of three steps, " + r[0], x.round(0, r[0]), r[1]);
            int[][] last = {{0, 24000}, {1, 3}, {10, 0}, {11, 10}};
            for (int[] r : last) Due.due("from the last desk, " + r[0], x.round(11, r[0]), r[1]);
        });
        Sentences.holds("NONE: none", () -> {
            HungerBooks x = new HungerBooks();
            for (int desk = 0; desk < 12; desk++) {
                for (int what : new int[] {0, 1, 10, 11}) Due.due("no exchange", x.round(desk, what), NONE);
            }
            x.exchange(0, 1, 1, 99);
            x.exchange(1, 2, 1, 99);
            for (int what : new int[] {0, 1, 10, 11}) Due.due("no way back", x.round(0, what), NONE);
        });
        Sentences.holds(", none such.", () -> {
            HungerBooks x = new HungerBooks();
            Answers.land(x);
            for (int desk : new int[] {MIN, -1, 12, MAX}) Due.due("desk " + desk, x.round(desk, 0), NONE);
            for (int what : new int[] {MIN, -1, 2, 9, 11, 12, 13, MAX}) Due.due("what " + what, x.round(0, what), NONE);
        });
    }

    private static void road() {
        Sentences.promise(33);
        Sentences.holds("A ROAD: true", () -> {
            HungerBooks x = new HungerBooks();
            Due.due("of one mile", x.road(14, 15, 1), true);
            Due.due("of 99", x.road(15, 14, 99), true);
            Due.due("the last told", x.way(0, 14, 15, 1), 99);
            Due.due("none", x.road(14, 15, 0), true);
            Due.due("none that never was", x.road(3, 4, 0), true);
            Due.due("no way", x.way(0, 15, 14, 1), NONE);
        });
        Sentences.holds("false: not as told", () -> {
            int[][] wrong = {{-1, 0, 1}, {16, 0, 1}, {MIN, 0, 1}, {MAX, 0, 1}, {0, -1, 1}, {0, 16, 1}, {0, MIN, 1}, {0, MAX, 1}, {0, 1, -1},
                {0, 1, 100}, {0, 1, MIN}, {0, 1, MAX}};
            for (int[] w : wrong) {
                Answers.unchanged("road " + Arrays.toString(w), Answers::land, x -> x.road(w[0], w[1], w[2]) ? 1 : 0, 0);
            }
        });
        Sentences.holds("alike.", () -> {
            for (int place : new int[] {0, 1, 7, 15}) {
                Answers.unchanged("road at " + place, Answers::land, x -> x.road(place, place, 5) ? 1 : 0, 0);
                Answers.unchanged("no road at " + place, Answers::land, x -> x.road(place, place, 0) ? 1 : 0, 0);
            }
        });
    }

    private static void post() {
        Sentences.promise(34);
        Sentences.holds("A POST on the ROAD between two PLACES: how many.", () -> {
            HungerBooks x = new HungerBooks();
            x.road(0, 1, 5);
            x.road(14, 15, 5);
            Due.due("the first", x.post(0, 1, 1, 0), 1);
            Due.due("another one on another road", x.post(15, 14, 9, 8), 2);
            Due.due("posts there and back", x.way(8, 14, 15, 0) + x.way(8, 15, 14, 0), 2);
            Due.due("posts on another day", x.way(9, 14, 15, 0), 0);
        });
        Sentences.holds("NONE, doing nothing: not as told (m 1 to 9, r 0 to m - 1)", () -> {
            int[][] wrong = {{-1, 0, 1, 0}, {16, 0, 1, 0}, {MIN, 0, 1, 0}, {MAX, 0, 1, 0}, {0, -1, 1, 0}, {0, 16, 1, 0}, {0, MIN, 1, 0},
                {0, MAX, 1, 0}, {0, 1, 0, 0}, {0, 1, -1, 0}, {0, 1, 10, 0}, {0, 1, MIN, 0}, {0, 1, MAX, 0}, {0, 1, 1, -1}, {0, 1, 1, 1},
                {0, 1, 9, 9}, {0, 1, 9, MIN}, {0, 1, 9, MAX}, {0, 1, 0, -1}};
            for (int[] w : wrong) {
                Answers.unchanged("post " + Arrays.toString(w), Answers::land, x -> x.post(w[0], w[1], w[2], w[3]), NONE);
            }
        });
        Sentences.holds("alike", () -> {
            for (int place : new int[] {0, 1, 7, 15}) {
                Answers.unchanged("post at " + place, Answers::land, x -> x.post(place, place, 1, 0), NONE);
            }
        });
        Sentences.holds("20 are there.", () -> {
            Answers.unchanged("the 21st", x -> {
                Answers.land(x);
                for (int k = 2; k <= 20; k++) x.post(1, 2, 1, 0);
            }, x -> x.post(0, 1, 1, 0), NONE);
            HungerBooks x = new HungerBooks();
            for (int k = 1; k <= 20; k++) Due.due("post", x.post(0, 1, 1, 0), k);
        });
    }

    private static void way() {
        Sentences.promise(35);
        Sentences.holds("A WAY: POSTS (what 0), miles (1).", () -> {
            HungerBooks x = new HungerBooks();
            Answers.land(x);
            Due.due("posts on day 0", x.way(0, 0, 2, 0), 1);
            Due.due("miles on day 0", x.way(0, 0, 2, 1), 11);
            Due.due("posts on day 399", x.way(399, 2, 0, 0), 0);
            Due.due("miles on day 399", x.way(399, 2, 0, 1), 11);
            Due.due("to itself", x.way(0, 15, 15, 0) + x.way(0, 15, 15, 1), 0);
        });
        Sentences.holds("NONE: none", () -> {
            HungerBooks x = new HungerBooks();
            Answers.land(x);
            for (int what = 0; what < 2; what++) {
                Due.due("no road leads there", x.way(0, 0, 15, what), NONE);
                Due.due("no road leads from there", x.way(0, 15, 0, what), NONE);
            }
        });
        Sentences.holds(", none such.", () -> {
            HungerBooks x = new HungerBooks();
            Answers.land(x);
            for (int day : new int[] {MIN, -1, 400, MAX}) Due.due("day " + day, x.way(day, 0, 1, 0), NONE);
            for (int place : new int[] {MIN, -1, 16, MAX}) {
                Due.due("from " + place, x.way(0, place, 1, 0), NONE);
                Due.due("to " + place, x.way(0, 0, place, 0), NONE);
                Due.due("from and to " + place, x.way(0, place, place, 0), NONE);
            }
            for (int what : new int[] {MIN, -1, 2, MAX}) Due.due("what " + what, x.way(0, 0, 1, what), NONE);
        });
    }

    private static void plan() {
        Sentences.promise(36);
        Sentences.holds("PLAN (stock 0 to 99,999,999): ILL (what 0), stock left (1), 10 + w the digit of WEEK w (0 on).", () -> {
            HungerBooks x = oneMouth(0);
            planned(x, 99999999, 0, 99999999 - 44800, 1, 3, 1, 3, 1, 3, 1, 3);
            planned(x, 22400, 8, 0, 0, 0, 0, 0, 0, 0, 0, 0);
            HungerBooks empty = new HungerBooks();
            planned(empty, 0, 0, 0, 0);
            planned(empty, 99999999, 0, 99999999, 0, 0, 0, 0, 0, 0, 0, 0);
        });
        Sentences.holds("NONE: no row can be", () -> {
            HungerBooks x = oneMouth(0);
            for (int weeks = 1; weeks <= 8; weeks++) {
                for (int what : new int[] {0, 1, 10}) {
                    Due.due("one short", x.plan(0, weeks, 2800 * weeks - 1, what), NONE);
                    Due.due("none at all", x.plan(0, weeks, 0, what), NONE);
                }
                Due.due("just enough", x.plan(0, weeks, 2800 * weeks, 1), 0);
            }
        });
        Sentences.holds(", none such.", () -> {
            HungerBooks x = oneMouth(0);
            for (int town : new int[] {MIN, -1, 6, MAX}) Due.due("town " + town, x.plan(town, 1, 9999, 0), NONE);
            for (int weeks : new int[] {MIN, -1, 0, 9, MAX}) {
                for (int what : new int[] {0, 1, 10, 17}) Due.due("weeks " + weeks, x.plan(0, weeks, 999999, what), NONE);
            }
            for (int stock : new int[] {MIN, -1, 100000000, MAX}) Due.due("stock " + stock, x.plan(0, 1, stock, 0), NONE);
            for (int what : new int[] {MIN, -1, 2, 9, 11, 12, MAX}) Due.due("what " + what, x.plan(0, 1, 9999, what), NONE);
            Due.due("the eighth digit", x.plan(0, 8, 99999, 17), 3);
            Due.due("the ninth digit", x.plan(0, 8, 99999, 18), NONE);
        });
    }

    private static void judge() {
        Sentences.promise(37);
        Sentences.holds("A ROW judged: ILL (what 0), stock left (1).", () -> {
            HungerBooks x = oneMouth(0);
            int[][] rows = {{1, 2800, 0, 1, 0}, {1, 7000, 3, 0, 0}, {8, 22400, 0, 8, 0}, {8, 99999999, 65535, 0, 99999999 - 56000}};
            for (int[] r : rows) {
                Due.due("ill of " + Arrays.toString(r), x.judge(0, r[0], r[1], r[2], 0), r[3]);
                Due.due("left of " + Arrays.toString(r), x.judge(0, r[0], r[1], r[2], 1), r[4]);
            }
        });
        Sentences.holds("NONE: the stock isn't enough", () -> {
            HungerBooks x = oneMouth(0);
            int[][] rows = {{1, 2799, 0}, {1, 6999, 3}, {8, 22399, 0}, {8, 55999, 65535}, {2, 0, 0}};
            for (int[] r : rows) {
                Due.due("ill of " + Arrays.toString(r), x.judge(0, r[0], r[1], r[2], 0), NONE);
                Due.due("left of " + Arrays.toString(r), x.judge(0, r[0], r[1], r[2], 1), NONE);
            }
        });
        Sentences.holds(", none such.", () -> {
            HungerBooks x = oneMouth(0);
            for (int town : new int[] {MIN, -1, 6, MAX}) Due.due("town " + town, x.judge(town, 1, 9999, 0, 0), NONE);
            for (int weeks : new int[] {MIN, -1, 0, 9, MAX}) Due.due("weeks " + weeks, x.judge(0, weeks, 999999, 0, 0), NONE);
            for (int stock : new int[] {MIN, -1, 100000000, MAX}) Due.due("stock " + stock, x.judge(0, 1, stock, 0, 0), NONE);
            for (int weeks = 1; weeks <= 8; weeks++) {
                Due.due("the last row of " + weeks, x.judge(0, weeks, 7000 * weeks, (1 << 2 * weeks) - 1, 1), 0);
                Due.due("one row more of " + weeks, x.judge(0, weeks, 999999, 1 << 2 * weeks, 1), NONE);
            }
            for (int row : new int[] {MIN, -1, MAX}) Due.due("row " + row, x.judge(0, 8, 999999, row, 0), NONE);
            for (int what : new int[] {MIN, -1, 2, 10, MAX}) Due.due("what " + what, x.judge(0, 1, 9999, 0, what), NONE);
        });
    }
}
