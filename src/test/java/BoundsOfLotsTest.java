import java.util.Arrays;

/** The document's sentences one by one: ==== 3 and promises 14 to 25. */
public final class BoundsOfLotsTest {
    private static final int NONE = HungerBooks.NONE;
    private static final int MIN = Integer.MIN_VALUE;
    private static final int MAX = Integer.MAX_VALUE;

    public static void main(String[] args) {
        lots();
        handsOn();
        meals();
        illness();
        endOfADay();
        sums();
        crop();
        deliver();
        buy();
        deal();
        parcel();
        seize();
        pass();
        lotOf();
        led();
        coins();
        houseOf();
        lack();
        Sentences.end("BoundsOfLotsTest");
    }

    /** FARM 0 of TOWN 0, and a HOUSE there whose KIN it is. */
    private static HungerBooks oneHouse(int mouths) {
        HungerBooks x = new HungerBooks();
        x.farm(0, 0);
        x.house(0, mouths, 1000, 0, 0);
        return x;
    }

    /** The land with other ORDERS than its own from now on. */
    private static void tellAnew(HungerBooks x, String text) {
        // What stands on the tape goes as ORDERS for the last WEEK.
        x.orders(0, 57);
        Due.tell(x, text, 0);
    }

    /** The land, and LOT 10 of HOUSE 0 with three pieces; LOT 0 of FARM 0 has 13 left. */
    private static void larder(HungerBooks x) {
        Answers.land(x);
        x.deal(0, 3, 0, 5);
    }

    /** So many LOTS (382 at least) by few calls: LOT 0 is FARM 0's, LOT 1 HOUSE 0's, those from 382 on the SHOP's. */
    private static void crowd(HungerBooks x, int lots) {
        x.farm(0, 0);
        x.house(0, 1, 1950, 0, 0);
        x.crop(0, 3, 9999);
        x.deal(0, 5, 0, 0);
        for (int k = 0; k < 190; k++) x.deliver(0, 1);
        x.buy(0, 3, 190, true);
        for (int k = 382; k < lots; k++) x.deliver(0, 1);
    }

    private static void full(HungerBooks x) {
        crowd(x, 400);
    }

    private static void lot(HungerBooks x, int lot, int... want) {
        for (int what = 0; what < want.length; what++) {
            Due.due("lotOf(" + lot + ", " + what + ")", x.lotOf(lot, what), want[what]);
        }
    }

    private static void lots() {
        Sentences.terms(3);
        Sentences.holds("LOTS, up to 400: pieces of a GOOD that a HOLDER has, from a LOT (NONE: a crop)", () -> {
            HungerBooks x = new HungerBooks();
            x.farm(0, 0);
            for (int k = 0; k < 400; k++) Due.due("lot " + k, x.crop(0, k % 6, 1 + k), k);
            Due.due("the 401st", x.crop(0, 0, 1), NONE);
            lot(x, 399, 3, 400, 100, NONE);
            HungerBooks y = oneHouse(1);
            y.crop(0, 0, 9);
            lot(y, y.deal(0, 4, 0, 0), 0, 4, 0, 0);
        });
        Sentences.holds("by a WAY: 0 crop, 1 delivered, 2 bought, 3 dealt, 4 parcel, 5 seized", () -> {
            HungerBooks x = ways();
            for (int way = 0; way <= 5; way++) Due.due("way of lot " + way, x.lotOf(way, 4), way);
        });
        Sentences.holds("for so many coins (of 0, 4, 5: 0)", () -> {
            HungerBooks x = ways();
            int[] coins = {0, 60, 20, 7, 0, 0};
            for (int way = 0; way <= 5; way++) Due.due("coins of lot " + way, x.lotOf(way, 5), coins[way]);
        });
        Sentences.holds("BORN on a DAY (that of the crop it's from).", () -> {
            HungerBooks x = oneHouse(1);
            x.pass(60);
            x.crop(0, 5, 9);
            Due.passTo(x, 399);
            x.deliver(0, 3);
            x.buy(0, 5, 1, true);
            x.seize(2);
            x.crop(0, 5, 9);
            int[] born = {60, 60, 60, 60, 399};
            for (int k = 0; k < born.length; k++) Due.due("born of lot " + k, x.lotOf(k, 6), born[k]);
        });
        Sentences.holds("What is handed on is a new LOT; the old one has less.", () -> {
            HungerBooks x = ways();
            int[] left = {20 - 6 - 2 - 3, 4, 2, 0, 3, 2};
            for (int k = 0; k < left.length; k++) Due.due("pieces of lot " + k, x.lotOf(k, 1), left[k]);
            Due.due("all together", x.count(8), 20);
            Due.due("lots", x.count(3), 6);
        });
        Sentences.holds("A call that would make more than 400 does nothing.", () -> {
            Answers.unchanged("crop", BoundsOfLotsTest::full, x -> x.crop(0, 0, 1), NONE);
            Answers.unchanged("deliver", BoundsOfLotsTest::full, x -> x.deliver(0, 1), NONE);
            Answers.unchanged("buy", BoundsOfLotsTest::full, x -> x.buy(0, 3, 1, true), -5);
            Answers.unchanged("deal", BoundsOfLotsTest::full, x -> x.deal(0, 1, 0, 5), NONE);
            Answers.unchanged("parcel", BoundsOfLotsTest::full, x -> x.parcel(0, 1, 0), NONE);
            Answers.unchanged("seize", BoundsOfLotsTest::full, x -> x.seize(0), NONE);
            HungerBooks x = new HungerBooks();
            full(x);
            Due.due("lots", x.count(3), 400);
        });
        Sentences.holds("A LOT with no piece left is empty, and stays one.", () -> {
            HungerBooks x = oneHouse(1);
            x.crop(0, 0, 2);
            x.deal(0, 2, 0, 0);
            x.deal(1, 2, 100, 0);
            lot(x, 0, 0, 0, 100, NONE, 0, 0, 0, 0, 0, 2, 0);
            lot(x, 1, 0, 0, 0, 0, 3, 0, 0, 0, 0, 2, 1);
            Due.due("it counts", x.count(3), 3);
            Due.due("not delivered", x.deliver(0, 1), NONE);
            Due.due("not dealt", x.deal(1, 1, 100, 0), NONE);
            Due.due("no parcel", x.parcel(0, 1, 0), NONE);
            Due.due("not seized", x.seize(0), NONE);
            Due.due("a new one is another", x.crop(0, 0, 1), 3);
            x.pass(10);
            Due.due("none spoiled of it", x.lotOf(0, 8), 0);
        });
    }

    /** LOTS 0 to 5, each by the WAY of its number. */
    private static HungerBooks ways() {
        HungerBooks x = oneHouse(1);
        x.house(0, 1, 7, NONE, 0);
        x.crop(0, 3, 20);
        x.deliver(0, 6);
        x.buy(0, 3, 2, true);
        x.deal(0, 2, 1, 7);
        x.parcel(0, 3, 0);
        x.seize(3);
        return x;
    }

    private static void handsOn() {
        Sentences.holds("DELIVERED: from a FARM to its SHOP: paid PRICE of TODAY's WEEK as KNOWN TODAY for each piece.", () -> {
            HungerBooks x = new HungerBooks();
            x.farm(0, 4);
            x.farm(0, 5);
            Due.tell(x, "price oil 3;", 0);
            Due.tell(x, "price oil 9999;", 1);
            x.crop(0, 3, 9999);
            x.crop(0, 3, 9999);
            x.pass(6);
            lot(x, x.deliver(0, 2), 3, 2, 204, 0, 1, 6);
            x.pass(1);
            lot(x, x.deliver(1, 9999), 3, 9999, 204, 1, 1, 99980001);
            Due.tell(x, "price oil 5;", 1);
            lot(x, x.deliver(0, 1), 3, 1, 204, 0, 1, 5);
            Due.tell(x, "price oil 0;", 2);
            lot(x, x.deliver(0, 1), 3, 1, 204, 0, 1, 5);
            x.pass(7);
            lot(x, x.deliver(0, 1), 3, 1, 204, 0, 1, 0);
            Due.due("the farm's coins", x.coins(100), 6 + 99980001 + 5 + 5);
            Due.due("a lot dealt to another farm goes to that one's shop", x.lotOf(x.deliver(x.deal(0, 1, 101, 0), 1), 2), 205);
        });
        Sentences.holds("BOUGHT by a HOUSE in its TOWN's SHOP, of a GOOD n pieces at that PRICE", () -> {
            HungerBooks x = oneHouse(1);
            x.farm(0, 1);
            Due.tell(x, "price oil 7;", 0);
            Due.tell(x, "price oil 8;", 1);
            x.deliver(x.crop(0, 3, 9), 9);
            x.deliver(x.crop(0, 4, 9), 9);
            x.deliver(x.crop(1, 3, 9), 9);
            x.pass(6);
            Due.due("at week 0's price", x.buy(0, 3, 4, true), 28);
            x.pass(1);
            Due.due("at week 1's price", x.buy(0, 3, 1, true), 8);
            Due.due("another good's price", x.buy(0, 4, 1, true), 10);
            Due.due("no more than there are in its town's shop", x.buy(0, 3, 5, true), -2);
            Due.due("all of them", x.buy(0, 3, 4, true), 32);
        });
        Sentences.holds("from the LOTS there that were BORN first (of one DAY by numbers), each its part.", () -> {
            HungerBooks x = oneHouse(1);
            x.crop(0, 5, 9);
            x.pass(1);
            x.crop(0, 5, 9);
            x.deliver(1, 1);
            x.deliver(0, 2);
            x.deliver(1, 3);
            x.deliver(0, 4);
            Due.due("eight pieces", x.buy(0, 5, 8, true), 80);
            // Born on day 0: lots 3 and 5; on day 1: lots 2 and 4.
            lot(x, 6, 5, 2, 0, 3, 2, 20, 0);
            lot(x, 7, 5, 4, 0, 5, 2, 40, 0);
            lot(x, 8, 5, 1, 0, 2, 2, 10, 1);
            lot(x, 9, 5, 1, 0, 4, 2, 10, 1);
            Due.due("what the last one keeps", x.lotOf(4, 1), 2);
            Due.due("no empty lot is made", x.count(3), 10);
        });
        Sentences.holds("On TICKETS: what it bought on them in that WEEK of that GOOD and n are together at most its CARD (as KNOWN TODAY)", () -> {
            HungerBooks x = oneHouse(4);
            x.house(0, 4, 1000, NONE, 0);
            Due.tell(x, "card smoke mouths;card oil 99;price smoke 1;price oil 1;", 0);
            x.deliver(x.crop(0, 5, 300), 300);
            x.deliver(x.crop(0, 3, 300), 300);
            Due.due("more than the card", x.buy(0, 5, 5, false), -3);
            Due.due("a part", x.buy(0, 5, 3, false), 3);
            Due.due("together above it", x.buy(0, 5, 2, false), -3);
            Due.due("together just it", x.buy(0, 5, 1, false), 1);
            Due.due("one more", x.buy(0, 5, 1, false), -3);
            Due.due("another house's card", x.buy(1, 5, 4, false), 4);
            Due.due("above another good's", x.buy(0, 3, 100, false), -3);
            Due.due("another good's", x.buy(0, 3, 99, false), 99);
            x.pass(6);
            Due.due("the week's last day", x.buy(0, 5, 1, false), -3);
            x.pass(1);
            x.die(0);
            Due.due("next week, the dead not known of", x.buy(0, 5, 3, false), 3);
            x.hear(0);
            Due.due("the dead known of", x.buy(0, 5, 1, false), -3);
            Due.tell(x, "card smoke 5;price smoke 1;", 1);
            Due.due("orders told today", x.buy(0, 5, 2, false), 2);
            Due.due("and no more", x.buy(0, 5, 1, false), -3);
        });
        Sentences.holds("FORGED ones: without.", () -> {
            HungerBooks x = oneHouse(4);
            Due.tell(x, "card smoke 2;price smoke 1;", 0);
            x.deliver(x.crop(0, 5, 300), 300);
            Due.due("above the card", x.buy(0, 5, 100, true), 100);
            Due.due("they do not count on tickets", x.buy(0, 5, 2, false), 2);
            Due.due("behind the card", x.buy(0, 5, 1, true), 1);
        });
        Sentences.holds("DEALT: from a HOUSE or FARM to another such one, for so many coins of the taker's.", () -> {
            HungerBooks x = oneHouse(1);
            x.house(5, 1, 30, NONE, 0);
            x.farm(0, 5);
            x.crop(0, 5, 9);
            Due.due("farm to house", x.deal(0, 4, 1, 30), 1);
            Due.due("house to house", x.deal(1, 3, 0, 900), 2);
            Due.due("house to farm", x.deal(2, 2, 101, 0), 3);
            Due.due("farm to farm", x.deal(3, 1, 100, 0), 4);
            int[][] purses = {{0, 100}, {1, 900}, {100, 30}, {101, 0}};
            for (int[] p : purses) Due.due("coins of " + p[0], x.coins(p[0]), p[1]);
            Due.due("a farm without coins", x.deal(0, 1, 101, 1), NONE);
        });
        Sentences.holds("PARCEL: from a HOUSE's KIN to it", () -> {
            HungerBooks x = oneHouse(1);
            x.farm(0, 0);
            x.house(3, 1, 0, 1, 0);
            x.house(3, 1, 0, NONE, 0);
            x.crop(0, 3, 9);
            x.crop(1, 3, 9);
            Due.due("from its kin", x.parcel(0, 1, 0), 2);
            Due.due("from its kin in another town", x.parcel(1, 1, 1), 3);
            Due.due("not from another farm", x.parcel(1, 1, 0), NONE);
            Due.due("not to one without kin", x.parcel(0, 1, 2), NONE);
            Due.due("not from the house's own", x.parcel(2, 1, 0), NONE);
        });
        Sentences.holds("of a WEEK at most PARCEL pieces to one HOUSE.", () -> {
            HungerBooks x = oneHouse(1);
            x.house(0, 1, 0, 0, 0);
            x.crop(0, 5, 99);
            x.crop(0, 4, 99);
            Due.due("six", x.parcel(0, 6, 0), NONE);
            Due.due("five to the other house", x.parcel(0, 5, 1), 2);
            Due.due("four", x.parcel(0, 4, 0), 3);
            Due.due("two more of another good", x.parcel(1, 2, 0), NONE);
            Due.due("one more of another good", x.parcel(1, 1, 0), 4);
            x.pass(6);
            Due.due("the week's last day", x.parcel(0, 1, 0), NONE);
            x.pass(1);
            Due.due("next week", x.parcel(0, 5, 0), 5);
            Due.tell(x, "parcel 7;", 0);
            Due.due("three more of seven", x.parcel(0, 3, 0), NONE);
            Due.due("two more of seven", x.parcel(0, 2, 0), 6);
            Due.tell(x, "parcel 0;", 1);
            Due.due("none of none", x.parcel(0, 1, 1), NONE);
        });
        Sentences.holds("SEIZED: all pieces of a LOT of a HOUSE or FARM go to the POLICE, and the HOLDER loses FINE coins (or what it has).", () -> {
            HungerBooks x = oneHouse(1);
            x.house(0, 1, 50, NONE, 0);
            x.house(0, 1, 49, NONE, 0);
            x.house(0, 1, 51, NONE, 0);
            x.crop(0, 5, 99);
            for (int house = 1; house <= 3; house++) {
                int there = x.deal(0, 10 * house, house, 0);
                lot(x, x.seize(there), 5, 10 * house, 300, there, 5, 0);
                Due.due("nothing is left", x.lotOf(there, 1), 0);
            }
            Due.due("just the fine", x.coins(1), 0);
            Due.due("less than the fine", x.coins(2), 0);
            Due.due("more than the fine", x.coins(3), 1);
            lot(x, x.seize(0), 5, 39, 300, 0, 5, 0);
            Due.due("a farm without coins", x.coins(100), 0);
            Due.tell(x, "fine 0;", 0);
            x.seize(x.deal(x.crop(0, 5, 1), 1, 3, 0));
            Due.due("no fine", x.coins(3), 1);
            Due.tell(x, "fine 999999;", 0);
            x.seize(x.deal(x.crop(0, 5, 1), 1, 0, 0));
            Due.due("a great fine", x.coins(0), 0);
        });
    }

    private static void meals() {
        Sentences.holds("A DAY goes by: (a) HOUSES by numbers EAT: NEED (of that WEEK as KNOWN that DAY) times MOUTHS that DAY measures are wanted.", () -> {
            HungerBooks x = oneHouse(9);
            x.house(0, 1, 0, NONE, 0);
            Due.tell(x, "need 999999;", 1);
            x.pass(7);
            Due.due("week 0", x.lack(0, 6), 9000);
            Due.due("one mouth", x.lack(1, 6), 1000);
            x.pass(1);
            Due.due("week 1, the most", x.lack(0, 7), 8999991);
            Due.tell(x, "need 1;", 1);
            x.die(0);
            x.pass(1);
            Due.due("the least, eight mouths", x.lack(0, 8), 8);
            Due.due("the day ahead stays", x.lack(0, 7), 8999991);
            x.hear(0);
            x.pass(1);
            Due.due("heard of or not", x.lack(0, 9), 8);
        });
        Sentences.holds("Of its LOTS of GOODS with MEASURES above 0", () -> {
            HungerBooks x = oneHouse(1);
            x.good(0, 0, 5);
            x.good(5, 1, 400);
            int bread = x.deal(x.crop(0, 0, 3), 3, 0, 0);
            int smoke = x.deal(x.crop(0, 5, 3), 3, 0, 0);
            x.crop(0, 5, 3);
            x.pass(1);
            Due.due("bread without measures", x.lotOf(bread, 7), 0);
            Due.due("smoke with one", x.lotOf(smoke, 7), 3);
            Due.due("measures", x.houseOf(0, 1), 3);
            Due.due("lack", x.lack(0, 0), 997);
        });
        Sentences.holds("by the DAY on which they'd spoil (BORN and KEEPS), then by numbers", () -> {
            HungerBooks x = oneHouse(1);
            Due.tell(x, "need 1;", 0);
            x.crop(0, 1, 9);
            x.pass(4);
            x.crop(0, 2, 9);
            x.crop(0, 2, 9);
            x.pass(1);
            x.crop(0, 0, 9);
            // Eggs of day 0 and meat of day 4 spoil on day 14, bread of day 5 on day 10.
            int meat = x.deal(2, 1, 0, 0);
            int eggs = x.deal(0, 1, 0, 0);
            int more = x.deal(1, 1, 0, 0);
            int bread = x.deal(3, 1, 0, 0);
            int[] order = {bread, meat, eggs, more};
            for (int k = 0; k < order.length; k++) {
                x.pass(1);
                for (int j = 0; j < order.length; j++) {
                    Due.due("eaten of lot " + order[j] + ", meal " + k, x.lotOf(order[j], 7), j <= k ? 1 : 0);
                }
            }
        });
        Sentences.holds("as many pieces of each as are still wanted (cut up) or are there.", () -> {
            int[][] rows = {{1, 1}, {199, 1}, {200, 1}, {201, 2}, {400, 2}, {401, 3}, {600, 3}, {601, 3}};
            for (int[] r : rows) {
                HungerBooks x = oneHouse(1);
                Due.tell(x, "need " + r[0] + ";", 0);
                int bread = x.deal(x.crop(0, 0, 3), 3, 0, 0);
                x.pass(1);
                Due.due("pieces of 200 when " + r[0] + " are wanted", x.lotOf(bread, 7), r[1]);
            }
            HungerBooks y = oneHouse(1);
            Due.tell(y, "need 401;", 0);
            int bread = y.deal(y.crop(0, 0, 2), 2, 0, 0);
            int eggs = y.deal(y.crop(0, 1, 2), 2, 0, 0);
            int roots = y.deal(y.crop(0, 4, 2), 2, 0, 0);
            y.pass(1);
            Due.due("all bread", y.lotOf(bread, 7), 2);
            Due.due("one egg for one measure", y.lotOf(eggs, 7), 1);
            Due.due("no roots", y.lotOf(roots, 7), 0);
            HungerBooks z = oneHouse(1);
            Due.tell(z, "need 1;", 0);
            int large = z.deal(z.crop(0, 0, 1), 1, 0, 0);
            int small = z.deal(z.crop(0, 4, 9), 9, 0, 0);
            z.pass(1);
            Due.due("a large piece for one measure", z.lotOf(large, 7), 1);
            Due.due("no small one, however much is too much", z.lotOf(small, 7), 0);
            Due.due("all small ones are there", z.lotOf(small, 1), 9);
        });
        Sentences.holds("ATE: all their measures; LACK of the DAY: what is wanted less that, 0 at least.", () -> {
            int[][] rows = {{599, 600, 0}, {600, 600, 0}, {601, 600, 1}, {1, 200, 0}};
            for (int[] r : rows) {
                HungerBooks x = oneHouse(1);
                Due.tell(x, "need " + r[0] + ";", 0);
                x.deal(x.crop(0, 0, 3), 3, 0, 0);
                x.pass(1);
                Due.due("ate when " + r[0] + " are wanted", x.houseOf(0, 1), r[1]);
                Due.due("lack when " + r[0] + " are wanted", x.lack(0, 0), r[2]);
            }
        });
    }

    private static void illness() {
        Sentences.holds("It's ILL that DAY, if LACK of it and the six DAYS ahead together", () -> {
            HungerBooks x = oneHouse(1);
            Due.tell(x, "need 1;ill 0;", 0);
            x.pass(1);
            Due.due("ill on day 0", x.houseOf(0, 3), 1);
            x.deal(x.crop(0, 4, 50), 50, 0, 0);
            for (int day = 1; day <= 6; day++) {
                x.pass(1);
                Due.due("still on day " + day, x.houseOf(0, 3), 1 + day);
            }
            x.pass(1);
            Due.due("not on day 7", x.houseOf(0, 3), 7);
            HungerBooks y = oneHouse(1);
            Due.tell(y, "ill 600;", 0);
            y.pass(6);
            Due.due("six days' need is not above six", y.houseOf(0, 3), 0);
            y.pass(20);
            Due.due("seven days' need is, and goes on", y.houseOf(0, 3), 20);
        });
        Sentences.holds("times 100 is above ILL (of that WEEK as KNOWN that DAY) times what is wanted.", () -> {
            HungerBooks x = oneHouse(1);
            x.pass(3);
            Due.due("just 300 hundredths", x.houseOf(0, 3), 0);
            HungerBooks y = oneHouse(1);
            Due.tell(y, "ill 299;", 0);
            y.pass(3);
            Due.due("just above 299 hundredths", y.houseOf(0, 3), 1);
            HungerBooks z = oneHouse(1);
            Due.tell(z, "ill 0;", 1);
            z.deal(z.crop(0, 5, 1), 1, 0, 0);
            z.pass(3);
            Due.due("ill of week 0", z.houseOf(0, 3), 0);
            Due.tell(z, "ill 100;", 0);
            z.pass(1);
            Due.due("as known that day", z.houseOf(0, 3), 1);
            Due.tell(z, "ill 999999;", 0);
            z.pass(1);
            Due.due("as known the next day", z.houseOf(0, 3), 1);
            HungerBooks w = oneHouse(1);
            Due.tell(w, "need 3;ill 133;", 0);
            w.pass(1);
            w.deal(w.crop(0, 4, 9), 9, 0, 0);
            w.pass(1);
            Due.due("3 of 3 is not above 133 hundredths", w.houseOf(0, 3), 0);
            Due.tell(w, "need 3;ill 99;", 0);
            w.pass(1);
            Due.due("it is above 99 hundredths", w.houseOf(0, 3), 1);
            HungerBooks v = oneHouse(9);
            Due.tell(v, "need 999999;ill 700;", 0);
            v.pass(20);
            Due.due("the most need, never above seven", v.houseOf(0, 3), 0);
            Due.tell(v, "need 999999;ill 699;", 0);
            v.pass(1);
            Due.due("above 699 hundredths", v.houseOf(0, 3), 1);
            Due.tell(v, "need 1;ill 999999;", 0);
            v.pass(1);
            // Six days of 8,999,991 and one of 9 against 9,999.99 times 9.
            Due.due("what is wanted is that day's", v.houseOf(0, 3), 2);
        });
    }

    private static void endOfADay() {
        Sentences.holds("(b) A LOT spoils, wherever it is, if BORN and KEEPS are at most that DAY.", () -> {
            HungerBooks x = oneHouse(1);
            x.good(0, 0, 1);
            x.pass(1);
            x.crop(0, 0, 10);
            x.deliver(0, 2);
            x.deal(0, 3, 0, 0);
            x.seize(x.deal(0, 4, 0, 0));
            x.pass(1);
            for (int k = 0; k < 5; k++) Due.due("none on the day it was born, lot " + k, x.lotOf(k, 8), 0);
            x.pass(1);
            int[] spoiled = {1, 2, 3, 0, 4};
            for (int k = 0; k < 5; k++) {
                Due.due("spoiled of lot " + k, x.lotOf(k, 8), spoiled[k]);
                Due.due("left of lot " + k, x.lotOf(k, 1), 0);
            }
            HungerBooks y = oneHouse(1);
            y.good(0, 200, 1);
            int bread = y.deal(y.crop(0, 0, 12), 12, 0, 0);
            y.pass(2);
            Due.due("eaten ahead of it on its last day", y.lotOf(bread, 7), 10);
            Due.due("the rest spoils", y.lotOf(bread, 8), 2);
            HungerBooks z = oneHouse(1);
            z.good(0, 0, 1);
            z.crop(0, 0, 5);
            z.pass(1);
            z.deliver(0, 4);
            z.pass(1);
            Due.due("by its crop's day, not that on which it was handed on", z.lotOf(1, 8), 4);
        });
        Sentences.holds("(c) TODAY is 1 more.", () -> {
            HungerBooks x = new HungerBooks();
            for (int day = 1; day <= 399; day++) Due.due("pass(1)", x.pass(1), day);
        });
    }

    private static void sums() {
        Sentences.holds("WITHOUT PARCELS: LACK of a HOUSE ever, and measures that it ate of LOTS whose WAY is parcel, together.", () -> {
            HungerBooks x = oneHouse(1);
            x.house(0, 1, 0, 0, 0);
            x.crop(0, 0, 99);
            x.deal(x.parcel(0, 4, 0), 1, 1, 0);
            x.deal(0, 1, 0, 0);
            x.pass(1);
            Due.due("lack of 200, three parcels' pieces", x.houseOf(0, 4), 800);
            Due.due("a parcel that was dealt on is none", x.houseOf(1, 4), 800);
            x.parcel(0, 1, 0);
            x.pass(1);
            Due.due("lack and parcels add up", x.houseOf(0, 4), 800 + 1000);
        });
        Sentences.holds("LED: of a crop: all its pieces, wherever they went: on FARMS, in SHOPS, in HOUSES, with the POLICE, eaten, spoiled.", () -> {
            HungerBooks x = oneHouse(1);
            x.farm(0, 0);
            Due.tell(x, "need 200;", 0);
            x.crop(0, 0, 100);
            x.crop(0, 0, 7);
            x.deal(0, 10, 101, 0);
            x.deliver(0, 20);
            x.buy(0, 0, 5, true);
            x.deal(0, 8, 0, 0);
            x.seize(x.deal(x.parcel(0, 3, 0), 2, 101, 0));
            int[] now = {69, 15, 14, 2, 0, 0};
            for (int what = 0; what < 6; what++) Due.due("led " + what, x.led(0, what), now[what]);
            x.pass(1);
            int[] then = {69, 15, 13, 2, 1, 0};
            for (int what = 0; what < 6; what++) Due.due("led " + what + " a day later", x.led(0, what), then[what]);
            x.pass(5);
            int[] last = {0, 0, 0, 0, 6, 94};
            for (int what = 0; what < 6; what++) Due.due("led " + what + " at last", x.led(0, what), last[what]);
            Due.due("another crop's", x.led(1, 5), 7);
        });
        Sentences.holds("HANDS of a LOT: how many LOTS it is from, one behind the other.", () -> {
            HungerBooks x = oneHouse(1);
            x.crop(0, 5, 1);
            for (int k = 1; k < 400; k++) x.deal(k - 1, 1, k % 2 == 1 ? 0 : 100, 0);
            for (int k : new int[] {0, 1, 2, 398, 399}) Due.due("hands of lot " + k, x.lotOf(k, 10), k);
            HungerBooks y = oneHouse(1);
            y.crop(0, 5, 9);
            for (int k = 1; k < 9; k++) Due.due("hands from the crop", y.lotOf(y.deal(0, 1, 0, 0), 10), 1);
        });
    }

    private static void crop() {
        Sentences.promise(14);
        Sentences.holds("A crop comes to a FARM (1 to 9,999 pieces): its LOT.", () -> {
            HungerBooks x = new HungerBooks();
            x.farm(0, 0);
            x.farm(0, 0);
            x.pass(2);
            Due.due("one", x.crop(0, 0, 1), 0);
            Due.due("9,999", x.crop(1, 5, 9999), 1);
            lot(x, 0, 0, 1, 100, NONE, 0, 0, 2, 0, 0, 1, 0);
            lot(x, 1, 5, 9999, 101, NONE, 0, 0, 2, 0, 0, 9999, 0);
        });
        Sentences.holds("NONE, doing nothing: not as told", () -> {
            int[][] wrong = {{-1, 0, 1}, {2, 0, 1}, {100, 0, 1}, {MIN, 0, 1}, {MAX, 0, 1}, {0, -1, 1}, {0, 6, 1}, {0, MIN, 1},
                {0, MAX, 1}, {0, 0, 0}, {0, 0, -1}, {0, 0, 10000}, {0, 0, MIN}, {0, 0, MAX}};
            for (int[] w : wrong) {
                Answers.unchanged("crop " + Arrays.toString(w), Answers::land, x -> x.crop(w[0], w[1], w[2]), NONE);
            }
        });
        Sentences.holds("400 are there.", () -> {
            Answers.unchanged("the 401st", BoundsOfLotsTest::full, x -> x.crop(0, 3, 9), NONE);
            HungerBooks x = new HungerBooks();
            crowd(x, 399);
            Due.due("the 400th", x.crop(0, 3, 9), 399);
        });
    }

    private static void deliver() {
        Sentences.promise(15);
        Sentences.holds("DELIVERED: the new LOT.", () -> {
            HungerBooks x = new HungerBooks();
            Answers.land(x);
            Due.due("one", x.deliver(0, 1), 10);
            Due.due("all that is left", x.deliver(0, 15), 11);
            lot(x, 11, 0, 15, 200, 0, 1, 60, 0, 0, 0, 15, 1);
        });
        Sentences.holds("NONE, doing nothing: no such LOT of a FARM", () -> {
            for (int lot : new int[] {MIN, -1, 3, 4, 10, 9, 11, 400, MAX}) {
                Answers.unchanged("deliver of lot " + lot, BoundsOfLotsTest::larder, x -> x.deliver(lot, 1), NONE);
            }
        });
        Sentences.holds("not so many", () -> {
            for (int pieces : new int[] {MIN, -1, 0, 14, MAX}) {
                Answers.unchanged("deliver " + pieces, BoundsOfLotsTest::larder, x -> x.deliver(0, pieces), NONE);
            }
            Answers.unchanged("deliver of an empty lot", BoundsOfLotsTest::larder, x -> x.deliver(1, 1), NONE);
            HungerBooks x = new HungerBooks();
            larder(x);
            Due.due("just so many", x.deliver(0, 13), 11);
        });
        Sentences.holds("400 are there.", () -> {
            Answers.unchanged("deliver", BoundsOfLotsTest::full, x -> x.deliver(0, 1), NONE);
            HungerBooks x = new HungerBooks();
            crowd(x, 399);
            Due.due("the 400th", x.deliver(0, 1), 399);
        });
    }

    private static void buy() {
        Sentences.promise(16);
        Sentences.holds("BOUGHT: what is paid.", () -> {
            HungerBooks x = new HungerBooks();
            Answers.land(x);
            Due.due("forged", x.buy(2, 0, 1, true), 4);
            Due.due("on tickets", x.buy(2, 0, 18, false), 72);
            Due.due("coins", x.coins(2), 99999 - 76);
            tellAnew(x, "price bread 0;");
            Due.due("for nothing", x.buy(0, 0, 1, true), 0);
            HungerBooks y = new HungerBooks();
            y.farm(0, 0);
            y.house(0, 1, 99999, NONE, 0);
            y.house(0, 1, 99990, NONE, 0);
            Due.tell(y, "price egg 9999;", 0);
            y.deliver(y.crop(0, 1, 50), 50);
            Due.due("ten for all but nine coins", y.buy(0, 1, 10, true), 99990);
            Due.due("nine left", y.coins(0), 9);
            Due.due("ten for all coins", y.buy(1, 1, 10, true), 99990);
            Due.due("none left", y.coins(1), 0);
        });
        Sentences.holds("NONE, doing nothing: no such HOUSE, GOOD, pieces below 1", () -> {
            int[][] wrong = {{-1, 0, 1}, {3, 0, 1}, {100, 0, 1}, {MIN, 0, 1}, {MAX, 0, 1}, {0, -1, 1}, {0, 6, 1}, {0, MIN, 1},
                {0, MAX, 1}, {0, 0, 0}, {0, 0, -1}, {0, 0, MIN}};
            for (int[] w : wrong) {
                Answers.unchanged("buy " + Arrays.toString(w), Answers::land, x -> x.buy(w[0], w[1], w[2], true), NONE);
                Answers.unchanged("buy on tickets " + Arrays.toString(w), Answers::land, x -> x.buy(w[0], w[1], w[2], false), NONE);
            }
        });
        Sentences.holds("-2, doing nothing: not so many there", () -> {
            int[][] wrong = {{0, 0, 6}, {0, 0, MAX}, {1, 0, 6}, {2, 0, 21}, {0, 1, 1}, {2, 4, 1}};
            for (int[] w : wrong) {
                Answers.unchanged("buy " + Arrays.toString(w), Answers::land, x -> x.buy(w[0], w[1], w[2], true), -2);
                Answers.unchanged("ahead of -3 " + Arrays.toString(w), Answers::land, x -> x.buy(w[0], w[1], w[2], false), -2);
            }
            HungerBooks x = new HungerBooks();
            Answers.land(x);
            Due.due("just so many", x.buy(0, 0, 5, true), 20);
        });
        Sentences.holds("-3, doing nothing: CARD", () -> {
            Answers.unchanged("one above the card", Answers::land, x -> x.buy(0, 0, 1, false), -3);
            Answers.unchanged("one above another's, ahead of -4", Answers::land, x -> x.buy(1, 0, 3, false), -3);
            Answers.unchanged("one above the third's", Answers::land, x -> x.buy(2, 0, 19, false), -3);
            Answers.unchanged("no card, ahead of -5", BoundsOfLotsTest::full, x -> x.buy(0, 3, 1, false), -3);
            HungerBooks x = new HungerBooks();
            Answers.land(x);
            Due.due("just the card", x.buy(2, 0, 18, false), 72);
        });
        Sentences.holds("-4, doing nothing: not the coins", () -> {
            Answers.unchanged("12 of 8 coins", Answers::land, x -> x.buy(1, 0, 3, true), -4);
            Answers.unchanged("60 of 50 coins, ahead of -5", BoundsOfLotsTest::full, x -> x.buy(0, 3, 6, true), -4);
            HungerBooks x = new HungerBooks();
            Answers.land(x);
            Due.due("8 of 8 coins", x.buy(1, 0, 2, false), 8);
            HungerBooks y = new HungerBooks();
            y.farm(0, 0);
            y.house(0, 1, 99999, NONE, 0);
            Due.tell(y, "price egg 9999;", 0);
            for (int k = 0; k < 30; k++) y.deliver(y.crop(0, 1, 9999), 9999);
            // 299,970 times 9,999 is above what an int holds.
            Due.due("far more than the coins", y.buy(0, 1, 299970, true), -4);
            Due.due("a price that wraps around to few coins", y.buy(0, 1, 214771, true), -4);
        });
        Sentences.holds("-5, doing nothing: more than 400 LOTS.", () -> {
            Answers.unchanged("one of 400", BoundsOfLotsTest::full, x -> x.buy(0, 3, 1, true), -5);
            Answers.unchanged("two of 399", x -> crowd(x, 399), x -> x.buy(0, 3, 2, true), -5);
            Answers.unchanged("three of 398", x -> crowd(x, 398), x -> x.buy(0, 3, 3, true), -5);
            HungerBooks x = new HungerBooks();
            crowd(x, 398);
            Due.due("two of 398", x.buy(0, 3, 2, true), 20);
            HungerBooks y = new HungerBooks();
            crowd(y, 398);
            y.deliver(0, 9);
            Due.due("one of 399", y.buy(0, 3, 1, true), 10);
            Due.due("30 of lots with 1 and 40", shopOf(1, 40).buy(0, 3, 30, true), 0);
            Due.due("41 of lots with 40 and 1", shopOf(40, 1).buy(0, 3, 41, true), 0);
            Due.due("42 of lots with 40, 1 and 1", shopOf(40, 1, 1).buy(0, 3, 42, true), -5);
        });
    }

    /** 398 LOTS, those in the SHOP with so many pieces each, for nothing. */
    private static HungerBooks shopOf(int... pieces) {
        HungerBooks x = new HungerBooks();
        crowd(x, 382);
        for (int part : pieces) x.deliver(0, part);
        for (int k = 382 + pieces.length; k < 398; k++) x.crop(0, 0, 1);
        Due.tell(x, "price oil 0;", 0);
        return x;
    }

    private static void deal() {
        Sentences.promise(17);
        Sentences.holds("DEALT to a HOLDER (a HOUSE or FARM) for coins (0 to 99,999): the new LOT.", () -> {
            HungerBooks x = new HungerBooks();
            larder(x);
            Due.due("for nothing", x.deal(0, 1, 1, 0), 11);
            Due.due("for 99,999", x.deal(0, 1, 2, 99999), 12);
            Due.due("to a farm, all of it", x.deal(10, 3, 101, 80), 13);
            lot(x, 12, 0, 1, 2, 0, 3, 99999, 0, 0, 0, 1, 1);
            lot(x, 13, 0, 3, 101, 10, 3, 80, 0, 0, 0, 3, 2);
        });
        Sentences.holds("NONE, doing nothing: not as told", () -> {
            int[][] wrong = {{-1, 1, 0, 0}, {11, 1, 0, 0}, {MIN, 1, 0, 0}, {MAX, 1, 0, 0}, {3, 1, 0, 0}, {9, 1, 0, 0}, {0, 1, -1, 0},
                {0, 1, 3, 0}, {0, 1, 99, 0}, {0, 1, 102, 0}, {0, 1, 200, 0}, {0, 1, 201, 0}, {0, 1, 300, 0}, {0, 1, MIN, 0}, {0, 1, MAX, 0},
                {0, 1, 2, -1}, {0, 1, 2, 100000}, {0, 1, 2, MIN}, {0, 1, 2, MAX}};
            for (int[] w : wrong) {
                Answers.unchanged("deal " + Arrays.toString(w), BoundsOfLotsTest::larder, x -> x.deal(w[0], w[1], w[2], w[3]), NONE);
            }
        });
        Sentences.holds("its own", () -> {
            Answers.unchanged("a farm's to itself", BoundsOfLotsTest::larder, x -> x.deal(0, 1, 100, 0), NONE);
            Answers.unchanged("a house's to itself", BoundsOfLotsTest::larder, x -> x.deal(10, 1, 0, 0), NONE);
        });
        Sentences.holds("not so many", () -> {
            for (int pieces : new int[] {MIN, -1, 0, 4, MAX}) {
                Answers.unchanged("deal of " + pieces, BoundsOfLotsTest::larder, x -> x.deal(10, pieces, 2, 1), NONE);
            }
            Answers.unchanged("deal of an empty lot", BoundsOfLotsTest::larder, x -> x.deal(5, 1, 2, 1), NONE);
            HungerBooks x = new HungerBooks();
            larder(x);
            Due.due("just so many", x.deal(10, 3, 2, 1), 11);
        });
        Sentences.holds("not the coins", () -> {
            Answers.unchanged("a house's", BoundsOfLotsTest::larder, x -> x.deal(0, 1, 1, 9), NONE);
            Answers.unchanged("a farm's", BoundsOfLotsTest::larder, x -> x.deal(0, 1, 101, 81), NONE);
            HungerBooks x = new HungerBooks();
            larder(x);
            Due.due("just a house's", x.deal(0, 1, 1, 8), 11);
            Due.due("just a farm's", x.deal(0, 1, 101, 80), 12);
            Due.due("coins", x.coins(1) + x.coins(101), 0);
            Due.due("the farm's", x.coins(100), 76 + 88);
        });
        Sentences.holds("400 are there.", () -> {
            Answers.unchanged("deal", BoundsOfLotsTest::full, x -> x.deal(0, 1, 0, 1), NONE);
            HungerBooks x = new HungerBooks();
            crowd(x, 399);
            Due.due("the 400th", x.deal(0, 1, 0, 1), 399);
        });
    }

    private static void parcel() {
        Sentences.promise(18);
        Sentences.holds("PARCEL: the new LOT.", () -> {
            HungerBooks x = new HungerBooks();
            larder(x);
            Due.due("one", x.parcel(0, 1, 0), 11);
            Due.due("up to five", x.parcel(0, 2, 0), 12);
            Due.due("five to the other", x.parcel(2, 5, 2), 13);
            lot(x, 13, 0, 5, 2, 2, 4, 0, 0, 0, 0, 5, 1);
        });
        Sentences.holds("NONE, doing nothing: not as told", () -> {
            int[][] wrong = {{-1, 1, 0}, {11, 1, 0}, {MIN, 1, 0}, {MAX, 1, 0}, {0, 1, -1}, {0, 1, 3}, {0, 1, 100}, {0, 1, MIN}, {0, 1, MAX}};
            for (int[] w : wrong) {
                Answers.unchanged("parcel " + Arrays.toString(w), BoundsOfLotsTest::larder, x -> x.parcel(w[0], w[1], w[2]), NONE);
            }
        });
        Sentences.holds("not its KIN's", () -> {
            int[][] wrong = {{0, 1, 1}, {0, 1, 2}, {2, 1, 0}, {3, 1, 0}, {9, 1, 0}, {10, 1, 0}};
            for (int[] w : wrong) {
                Answers.unchanged("parcel " + Arrays.toString(w), BoundsOfLotsTest::larder, x -> x.parcel(w[0], w[1], w[2]), NONE);
            }
        });
        Sentences.holds("not so many", () -> {
            for (int pieces : new int[] {MIN, -1, 0}) {
                Answers.unchanged("parcel of " + pieces, BoundsOfLotsTest::larder, x -> x.parcel(0, pieces, 0), NONE);
            }
            Answers.unchanged("parcel of an empty lot", BoundsOfLotsTest::larder, x -> x.parcel(1, 1, 0), NONE);
            Answers.unchanged("14 of 13", x -> {
                larder(x);
                tellAnew(x, "parcel 99;");
            }, x -> x.parcel(0, 14, 0), NONE);
            HungerBooks x = new HungerBooks();
            larder(x);
            tellAnew(x, "parcel 15;");
            Due.due("13 of 13", x.parcel(0, 13, 0), 11);
        });
        Sentences.holds("above PARCEL", () -> {
            for (int pieces : new int[] {4, 13, MAX}) {
                Answers.unchanged("two and " + pieces, BoundsOfLotsTest::larder, x -> x.parcel(0, pieces, 0), NONE);
            }
            Answers.unchanged("six", BoundsOfLotsTest::larder, x -> x.parcel(2, 6, 2), NONE);
            HungerBooks x = new HungerBooks();
            larder(x);
            Due.due("two and three", x.parcel(0, 3, 0), 11);
        });
        Sentences.holds("400 are there.", () -> {
            Answers.unchanged("parcel", BoundsOfLotsTest::full, x -> x.parcel(0, 1, 0), NONE);
            HungerBooks x = new HungerBooks();
            crowd(x, 399);
            Due.due("the 400th", x.parcel(0, 1, 0), 399);
        });
    }

    private static void seize() {
        Sentences.promise(19);
        Sentences.holds("SEIZED: the new LOT.", () -> {
            HungerBooks x = new HungerBooks();
            larder(x);
            Due.due("a house's", x.seize(10), 11);
            Due.due("a farm's", x.seize(0), 12);
            lot(x, 11, 0, 3, 300, 10, 5, 0, 0, 0, 0, 3, 2);
            lot(x, 12, 0, 13, 300, 0, 5, 0, 0, 0, 0, 13, 1);
            Due.due("the house's fine", x.coins(0), 79 - 7);
            Due.due("the farm's fine", x.coins(100), 76 - 7);
        });
        Sentences.holds("NONE, doing nothing: no such LOT of a HOUSE or FARM with a piece", () -> {
            for (int lot : new int[] {MIN, -1, 11, 400, MAX, 3, 4, 9, 1, 5}) {
                Answers.unchanged("seize(" + lot + ")", BoundsOfLotsTest::larder, x -> x.seize(lot), NONE);
            }
            HungerBooks x = new HungerBooks();
            x.farm(0, 0);
            Due.due("a lot of one piece", x.seize(x.crop(0, 0, 1)), 1);
        });
        Sentences.holds("400 are there.", () -> {
            Answers.unchanged("a farm's", BoundsOfLotsTest::full, x -> x.seize(0), NONE);
            Answers.unchanged("a house's", BoundsOfLotsTest::full, x -> x.seize(1), NONE);
            HungerBooks x = new HungerBooks();
            crowd(x, 399);
            Due.due("the 400th", x.seize(0), 399);
        });
    }

    private static void pass() {
        Sentences.promise(20);
        Sentences.holds("n DAYS (1 to 60) go by: TODAY.", () -> {
            HungerBooks x = oneHouse(1);
            Due.due("one", x.pass(1), 1);
            Due.due("sixty", x.pass(60), 61);
            Due.due("each day's lack", x.houseOf(0, 2), 61000);
            Due.due("the last of them", x.lack(0, 60), 1000);
        });
        Sentences.holds("NONE, doing nothing: another n", () -> {
            for (int n : new int[] {MIN, -60, -1, 0, 61, 399, MAX}) {
                Answers.unchanged("pass(" + n + ")", BoundsOfLotsTest::larder, x -> x.pass(n), NONE);
            }
        });
        Sentences.holds("above 399.", () -> {
            Answers.unchanged("one day behind the last", x -> {
                larder(x);
                Due.passTo(x, 399);
            }, x -> x.pass(1), NONE);
            Answers.unchanged("sixty of fifty-nine", x -> {
                larder(x);
                Due.passTo(x, 340);
            }, x -> x.pass(60), NONE);
            HungerBooks x = new HungerBooks();
            Due.passTo(x, 339);
            Due.due("sixty of sixty", x.pass(60), 399);
            HungerBooks y = new HungerBooks();
            Due.passTo(y, 398);
            Due.due("two of one", y.pass(2), NONE);
            Due.due("one of one", y.pass(1), 399);
        });
    }

    private static void lotOf() {
        Sentences.promise(21);
        Sentences.holds("Of a LOT: 0 GOOD, 1 pieces now, 2 HOLDER, 3 from which, 4 WAY, 5 coins, 6 BORN, 7 eaten, 8 spoiled, 9 pieces at first, 10 HANDS.", () -> {
            HungerBooks x = oneHouse(1);
            x.house(0, 1, 500, NONE, 0);
            x.pass(3);
            x.crop(0, 2, 40);
            x.pass(4);
            x.deal(0, 12, 1, 123);
            x.pass(1);
            lot(x, 0, 2, 28, 100, NONE, 0, 0, 3, 0, 0, 40, 0);
            lot(x, 1, 2, 5, 1, 0, 3, 123, 3, 7, 0, 12, 1);
            x.deliver(0, 20);
            x.pass(6);
            lot(x, 0, 2, 0, 100, NONE, 0, 0, 3, 0, 8, 40, 0);
            lot(x, 1, 2, 0, 1, 0, 3, 123, 3, 12, 0, 12, 1);
            lot(x, 2, 2, 0, 200, 0, 1, 200, 3, 0, 20, 20, 1);
        });
        Sentences.holds("NONE: none such.", () -> {
            HungerBooks x = new HungerBooks();
            larder(x);
            for (int lot : new int[] {MIN, -1, 11, 399, 400, MAX}) {
                for (int what = 0; what <= 10; what++) Due.due("lotOf(" + lot + ", " + what + ")", x.lotOf(lot, what), NONE);
            }
            for (int what : new int[] {MIN, -1, 11, MAX}) Due.due("lotOf(0, " + what + ")", x.lotOf(0, what), NONE);
            HungerBooks y = new HungerBooks();
            full(y);
            Due.due("the last of 400", y.lotOf(399, 1), 1);
            for (int lot = 400; lot <= 402; lot++) {
                Due.due("lotOf(" + lot + ", 1) of 400", y.lotOf(lot, 1), NONE);
                Due.due("led(" + lot + ", 0) of 400", y.led(lot, 0), NONE);
            }
        });
    }

    private static void led() {
        Sentences.promise(22);
        Sentences.holds("LED of a crop: pieces on FARMS (0), in SHOPS (1), in HOUSES (2), with the POLICE (3), eaten (4), spoiled (5).", () -> {
            HungerBooks x = new HungerBooks();
            larder(x);
            int[][] want = {{13, 5, 3, 0, 9, 0}, {0, 0, 0, 25, 5, 0}, {20, 20, 0, 0, 0, 0}};
            for (int lot = 0; lot < 3; lot++) {
                for (int what = 0; what < 6; what++) Due.due("led(" + lot + ", " + what + ")", x.led(lot, what), want[lot][what]);
            }
            x.pass(60);
            Due.due("all spoiled but what was eaten", x.led(0, 5), 30 - 9 - 3);
            Due.due("eaten", x.led(0, 4), 9 + 3);
        });
        Sentences.holds("NONE: no such crop", () -> {
            HungerBooks x = new HungerBooks();
            larder(x);
            for (int lot : new int[] {MIN, -1, 3, 5, 7, 8, 9, 10, 11, 400, MAX}) Due.due("led(" + lot + ", 0)", x.led(lot, 0), NONE);
        });
        Sentences.holds("none such.", () -> {
            HungerBooks x = new HungerBooks();
            larder(x);
            for (int what : new int[] {MIN, -1, 6, MAX}) Due.due("led(0, " + what + ")", x.led(0, what), NONE);
        });
    }

    private static void coins() {
        Sentences.promise(23);
        Sentences.holds("Coins of a HOLDER (a HOUSE or FARM).", () -> {
            HungerBooks x = new HungerBooks();
            larder(x);
            int[][] want = {{0, 79}, {1, 8}, {2, 99999}, {100, 76}, {101, 80}};
            for (int[] w : want) Due.due("coins(" + w[0] + ")", x.coins(w[0]), w[1]);
            HungerBooks y = new HungerBooks();
            y.farm(0, 0);
            Due.tell(y, "price oil 9999;", 0);
            for (int k = 0; k < 30; k++) y.deliver(y.crop(0, 3, 9999), 9999);
            Due.due("more than an int holds", y.coins(100), 30L * 9999 * 9999);
        });
        Sentences.holds("NONE: none such.", () -> {
            HungerBooks x = new HungerBooks();
            larder(x);
            for (int holder : new int[] {MIN, MIN + 99, MIN + 100, MIN + 101, -100, -1, 3, 24, 99, 102, 110, 200, 201, 205, 300, MAX}) {
                Due.due("coins(" + holder + ")", x.coins(holder), NONE);
            }
        });
    }

    private static void houseOf() {
        Sentences.promise(24);
        Sentences.holds("Of a HOUSE: 0 pieces now", () -> {
            HungerBooks x = new HungerBooks();
            larder(x);
            int[] want = {3, 0, 0};
            for (int house = 0; house < 3; house++) Due.due("pieces of " + house, x.houseOf(house, 0), want[house]);
            x.deal(0, 2, 0, 0);
            Due.due("of all its lots", x.houseOf(0, 0), 5);
            x.deal(10, 1, 1, 0);
            Due.due("less what was handed on", x.houseOf(0, 0), 4);
        });
        Sentences.holds("1 measures eaten ever, 2 LACK ever", () -> {
            HungerBooks x = new HungerBooks();
            larder(x);
            Due.due("eaten by the first", x.houseOf(0, 1), 1200);
            Due.due("lack of the first", x.houseOf(0, 2), 800);
            x.pass(2);
            Due.due("eaten by then", x.houseOf(0, 1), 1800);
            Due.due("lack by then", x.houseOf(0, 2), 800 + 1400 + 2000);
            HungerBooks y = oneHouse(9);
            Due.tell(y, "need 999999;", 0);
            Due.passTo(y, 399);
            Due.due("more than an int holds", y.houseOf(0, 2), 399L * 8999991);
        });
        Sentences.holds("3 ILL DAYS", () -> {
            HungerBooks x = oneHouse(1);
            x.pass(3);
            Due.due("none", x.houseOf(0, 3), 0);
            x.pass(1);
            Due.due("one", x.houseOf(0, 3), 1);
            Due.passTo(x, 399);
            Due.due("all behind it", x.houseOf(0, 3), 396);
        });
        Sentences.holds("4 WITHOUT PARCELS", () -> {
            HungerBooks x = new HungerBooks();
            larder(x);
            Due.due("lack and two pieces", x.houseOf(0, 4), 800 + 400);
            Due.due("no kin: lack alone", x.houseOf(1, 4), x.houseOf(1, 2));
            HungerBooks y = oneHouse(9);
            Due.tell(y, "need 999999;", 0);
            y.parcel(y.crop(0, 0, 5), 5, 0);
            Due.passTo(y, 399);
            Due.due("more than an int holds", y.houseOf(0, 4), 399L * 8999991);
        });
        Sentences.holds("5 pieces BOUGHT with FORGED ones alone.", () -> {
            HungerBooks x = new HungerBooks();
            larder(x);
            int[] want = {0, 3, 0};
            for (int house = 0; house < 3; house++) Due.due("forged of " + house, x.houseOf(house, 5), want[house]);
            x.buy(2, 0, 2, false);
            Due.due("on tickets", x.houseOf(2, 5), 0);
            x.buy(2, 0, 2, true);
            x.buy(2, 0, 3, true);
            x.pass(60);
            Due.due("ever", x.houseOf(2, 5), 5);
        });
        Sentences.holds("NONE: none such.", () -> {
            HungerBooks x = new HungerBooks();
            larder(x);
            for (int house : new int[] {MIN, -1, 3, 24, 100, MAX}) Due.due("house " + house, x.houseOf(house, 0), NONE);
            for (int what : new int[] {MIN, -1, 6, MAX}) Due.due("what " + what, x.houseOf(0, what), NONE);
        });
    }

    private static void lack() {
        Sentences.promise(25);
        Sentences.holds("LACK of a HOUSE on a DAY that went by.", () -> {
            HungerBooks x = oneHouse(1);
            x.deal(x.crop(0, 3, 3), 3, 0, 0);
            Due.passTo(x, 399);
            int[][] want = {{0, 100}, {1, 1000}, {398, 1000}};
            for (int[] w : want) Due.due("lack on day " + w[0], x.lack(0, w[0]), w[1]);
        });
        Sentences.holds("NONE: none such.", () -> {
            HungerBooks x = oneHouse(1);
            Due.due("no day went by", x.lack(0, 0), NONE);
            x.pass(9);
            for (int day : new int[] {MIN, -1, 9, 10, 399, 400, MAX}) Due.due("day " + day, x.lack(0, day), NONE);
            for (int house : new int[] {MIN, -1, 1, 100, MAX}) Due.due("house " + house, x.lack(house, 0), NONE);
            Due.passTo(x, 399);
            Due.due("the last day has not gone by", x.lack(0, 399), NONE);
        });
    }
}
