/** The document's sentences one by one: ==== 1, the constants, promises 1 to 7 and 38. */
public final class BoundsOfHousesTest {
    private static final int NONE = HungerBooks.NONE;
    private static final int MIN = Integer.MIN_VALUE;
    private static final int MAX = Integer.MAX_VALUE;

    public static void main(String[] args) {
        daysAndGoods();
        whoThereIs();
        whoDies();
        constants();
        newObject();
        goods();
        houses();
        farms();
        die();
        hear();
        mouths();
        count();
        Sentences.end("BoundsOfHousesTest");
    }

    private static HungerBooks oneHouse(int mouths) {
        HungerBooks x = new HungerBooks();
        x.farm(0, 0);
        x.house(0, mouths, 1000, 0, 0);
        return x;
    }

    private static void daysAndGoods() {
        Sentences.terms(1);
        Sentences.holds("DAYS 0 to 399", () -> {
            HungerBooks x = oneHouse(2);
            x.road(0, 1, 5);
            for (int day : new int[] {0, 399}) {
                Due.due("mouths on day " + day, x.mouths(0, day, NONE), 2);
                Due.due("mouths as known by day " + day, x.mouths(0, 0, day), 2);
                Due.due("rule as known by day " + day, x.rule(0, day, 0), 1000);
                Due.due("way on day " + day, x.way(day, 0, 1, 1), 5);
            }
            for (int day : new int[] {MIN, -1, 400, MAX}) {
                Due.due("mouths on day " + day, x.mouths(0, day, NONE), NONE);
                Due.due("rule as known by day " + day, x.rule(0, day, 0), NONE);
                Due.due("way on day " + day, x.way(day, 0, 1, 1), NONE);
            }
            Due.passTo(x, 399);
            Due.due("the last day", x.count(0), 399);
            Due.due("none behind it", x.pass(1), NONE);
        });
        Sentences.holds("TODAY is 0 at first", () -> Due.due("count(0)", new HungerBooks().count(0), 0));
        Sentences.holds("the WEEK of a DAY is it by 7 (cut).", BoundsOfHousesTest::weekOfADay);
        Sentences.holds("GOODS: 0 bread, 1 egg, 2 meat, 3 oil, 4 roots, 5 smoke", () -> {
            HungerBooks x = new HungerBooks();
            Due.tell(x, "price smoke 6;price roots 5;price oil 4;price meat 3;price egg 2;price bread 1;", 0);
            for (int g = 0; g < 6; g++) Due.due("price of good " + g, x.rule(0, 0, 10 + g), g + 1);
            Due.due("no good -1", x.rule(0, 0, 9), NONE);
            Due.due("no good 6", x.rule(0, 0, 16), NONE);
        });
        Sentences.holds("a piece has MEASURES (200, 80, 150, 300, 60, 0 at first)", () -> {
            int[] measures = {200, 80, 150, 300, 60, 0};
            for (int g = 0; g < 6; g++) {
                HungerBooks x = oneHouse(1);
                x.deal(x.crop(0, g, 1), 1, 0, 0);
                x.pass(1);
                Due.due("measures of good " + g, x.houseOf(0, 1), measures[g]);
            }
        });
        Sentences.holds("KEEPS for DAYS (5, 14, 10, 100, 60, 400).", () -> {
            int[] keeps = {5, 14, 10, 100, 60, 400};
            for (int g = 0; g < 6; g++) {
                HungerBooks x = oneHouse(1);
                x.crop(0, g, 1);
                Due.passTo(x, Math.min(399, keeps[g]));
                Due.due("good " + g + " ahead of its last day", x.lotOf(0, 8), 0);
                if (keeps[g] < 399) {
                    x.pass(1);
                    Due.due("good " + g + " behind its last day", x.lotOf(0, 8), 1);
                }
            }
        });
    }

    private static void weekOfADay() {
        HungerBooks x = oneHouse(1);
        Due.tell(x, "price oil 1;", 0);
        Due.tell(x, "price oil 2;", 1);
        Due.tell(x, "price oil 3;", 2);
        Due.tell(x, "price oil 57;", 57);
        int[][] rows = {{0, 1}, {6, 1}, {7, 2}, {13, 2}, {14, 3}, {398, 3}, {399, 57}};
        for (int[] r : rows) {
            Due.passTo(x, r[0]);
            Due.due("price on day " + r[0], x.lotOf(x.deliver(x.crop(0, 3, 1), 1), 5), r[1]);
        }
    }

    private static void whoThereIs() {
        Sentences.holds("PLACES 0 to 15", () -> {
            HungerBooks x = new HungerBooks();
            Due.due("farms at the first and the last", x.farm(0, 0) + x.farm(15, 0), 1);
            Due.due("a road between them", x.road(0, 15, 1), true);
            Due.due("a post on it", x.post(15, 0, 1, 0), 1);
            Due.due("a way", x.way(0, 15, 0, 0), 1);
            for (int place : new int[] {MIN, -1, 16, MAX}) {
                Due.due("farm at " + place, x.farm(place, 0), NONE);
                Due.due("road from " + place, x.road(place, 1, 1), false);
                Due.due("road to " + place, x.road(1, place, 1), false);
                Due.due("post from " + place, x.post(place, 1, 1, 0), NONE);
                Due.due("post to " + place, x.post(1, place, 1, 0), NONE);
                Due.due("way from " + place, x.way(0, place, 0, 0), NONE);
                Due.due("way to " + place, x.way(0, 0, place, 0), NONE);
            }
        });
        Sentences.holds("TOWNS are 0 to 5 of them, each with a SHOP.", () -> {
            HungerBooks x = new HungerBooks();
            for (int town = 0; town < 6; town++) {
                x.farm(0, town);
                x.house(town, 1, 1000, NONE, 0);
            }
            for (int town = 0; town < 6; town++) x.deliver(x.crop(town, 0, 1 + town), 1 + town);
            for (int town = 0; town < 6; town++) {
                Due.due("more than shop " + town + " has", x.buy(town, 0, 2 + town, true), -2);
                Due.due("what shop " + town + " has", x.buy(town, 0, 1 + town, true), 10 * (1 + town));
            }
            for (int town : new int[] {MIN, -1, 6, MAX}) {
                Due.due("house in " + town, x.house(town, 1, 0, NONE, 0), NONE);
                Due.due("farm of " + town, x.farm(0, town), NONE);
                Due.due("false ones of " + town, x.fake(town, 0, 0, 0), NONE);
                Due.due("plan of " + town, x.plan(town, 1, 0, 0), NONE);
                Due.due("row of " + town, x.judge(town, 1, 0, 0, 0), NONE);
            }
        });
        Sentences.holds("HOUSES, up to 24, in a TOWN", () -> {
            HungerBooks x = new HungerBooks();
            for (int k = 0; k < 24; k++) Due.due("house " + k, x.house(k % 6, 1, 0, NONE, 0), k);
            Due.due("the 25th", x.house(0, 1, 0, NONE, 0), NONE);
        });
        Sentences.holds("MOUTHS 1 to 9, coins", () -> {
            HungerBooks x = new HungerBooks();
            Due.due("no mouth", x.house(0, 0, 0, NONE, 0), NONE);
            Due.due("one", x.house(0, 1, 3, NONE, 0), 0);
            Due.due("nine", x.house(0, 9, 4, NONE, 0), 1);
            Due.due("ten", x.house(0, 10, 0, NONE, 0), NONE);
            Due.due("the first one's coins", x.coins(0), 3);
            Due.due("the second one's coins", x.coins(1), 4);
        });
        Sentences.holds("KIN (a FARM; NONE)", () -> {
            HungerBooks x = new HungerBooks();
            Due.due("kin ahead of any farm", x.house(0, 1, 0, 0, 0), NONE);
            x.farm(0, 0);
            x.farm(0, 0);
            Due.due("the first farm", x.house(0, 1, 0, 0, 0), 0);
            Due.due("the last farm", x.house(0, 1, 0, 1, 0), 1);
            Due.due("no farm", x.house(0, 1, 0, NONE, 0), 2);
            Due.due("farm 2", x.house(0, 1, 0, 2, 0), NONE);
            Due.due("below NONE", x.house(0, 1, 0, -2, 0), NONE);
            Due.due("a farm as a holder is none", x.house(0, 1, 0, 100, 0), NONE);
        });
        Sentences.holds("a GARDEN (measures a WEEK).", () -> {
            HungerBooks x = new HungerBooks();
            Due.tell(x, "ill 0;", 0);
            x.house(0, 1, 0, NONE, 4200);
            x.house(1, 1, 0, NONE, 4199);
            Due.due("as much as lacks", x.judge(0, 2, 99999, 0, 0), 0);
            Due.due("one less, in both weeks", x.judge(1, 2, 99999, 0, 0), 2);
        });
        Sentences.holds("FARMS, up to 10, at a PLACE, of a TOWN (to whose SHOP they deliver), with coins.", () -> {
            HungerBooks x = new HungerBooks();
            for (int k = 0; k < 10; k++) Due.due("farm " + k, x.farm(15 - k, k % 6), k);
            Due.due("the 11th", x.farm(0, 0), NONE);
            for (int k = 0; k < 10; k++) {
                int there = x.deliver(x.crop(k, 0, 1), 1);
                Due.due("shop of farm " + k, x.lotOf(there, 2), 200 + k % 6);
                Due.due("coins of farm " + k, x.coins(100 + k), 10);
            }
        });
        Sentences.holds("HOLDERS: a HOUSE by its number, FARM f 100 and f, SHOP of TOWN t 200 and t, the POLICE 300.", () -> {
            HungerBooks x = new HungerBooks();
            for (int k = 0; k < 24; k++) x.house(5, 1, k, NONE, 0);
            for (int k = 0; k < 10; k++) x.farm(0, 5);
            int crop = x.crop(9, 0, 9);
            Due.due("a farm", x.lotOf(crop, 2), 109);
            Due.due("a shop", x.lotOf(x.deliver(crop, 1), 2), 205);
            Due.due("a house", x.lotOf(x.deal(crop, 1, 23, 0), 2), 23);
            Due.due("the police", x.lotOf(x.seize(crop), 2), 300);
            Due.due("coins of house 23", x.coins(23), 23);
            for (int holder : new int[] {MIN, MIN + 99, MIN + 100, -1, 24, 99, 110, 200, 205, 300, MAX}) {
                Due.due("coins of " + holder, x.coins(holder), NONE);
            }
        });
    }

    private static void whoDies() {
        Sentences.holds("A MOUTH of a HOUSE dies TODAY (the last one can't)", () -> {
            HungerBooks x = oneHouse(2);
            x.pass(5);
            Due.due("one dies", x.die(0), 1);
            Due.due("the day ahead", x.mouths(0, 4, NONE), 2);
            Due.due("today", x.mouths(0, 5, NONE), 1);
            Due.due("the last one", x.die(0), NONE);
            Due.due("it lives", x.mouths(0, 399, NONE), 1);
        });
        Sentences.holds("the OFFICE hears of all that died there so far on a DAY.", () -> {
            HungerBooks x = oneHouse(5);
            x.house(0, 5, 0, NONE, 0);
            x.die(0);
            x.pass(1);
            x.die(0);
            x.die(1);
            x.pass(1);
            Due.due("of all there", x.hear(0), 2);
            x.die(0);
            Due.due("not of a later one", x.mouths(0, 2, 399), 3);
            Due.due("not of the other house's", x.mouths(1, 2, 399), 5);
        });
        Sentences.holds("MOUTHS on a DAY: less those that died by then", () -> {
            HungerBooks x = oneHouse(9);
            for (int day = 0; day < 3; day++) {
                x.die(0);
                x.pass(1);
            }
            int[] want = {8, 7, 6, 6};
            for (int day = 0; day < 4; day++) Due.due("mouths on day " + day, x.mouths(0, day, NONE), want[day]);
            Due.due("mouths on day 399", x.mouths(0, 399, NONE), 6);
        });
        Sentences.holds("as KNOWN by a DAY: less those of them that were heard of by that DAY.", () -> {
            HungerBooks x = oneHouse(9);
            x.pass(2);
            x.die(0);
            x.pass(2);
            x.hear(0);
            x.die(0);
            // One died on day 2 and was heard of on day 4; one died on day 4, unheard of.
            int[][] rows = {{1, 399, 9}, {2, 3, 9}, {2, 4, 8}, {4, 4, 8}, {399, 399, 8}, {399, 0, 9}};
            for (int[] r : rows) Due.due("mouths on " + r[0] + " as known by " + r[1], x.mouths(0, r[0], r[1]), r[2]);
        });
    }

    private static void constants() {
        Sentences.constants();
        Sentences.holds("`NONE = -1`: There is none.", () -> Due.due("NONE", HungerBooks.NONE, -1));
    }

    private static void newObject() {
        Sentences.promise(1);
        Sentences.holds("No HOUSES, FARMS, LOTS, ORDERS.", () -> {
            HungerBooks x = new HungerBooks();
            for (int what = 0; what <= 9; what++) Due.due("count(" + what + ")", x.count(what), 0);
            Due.due("a house", x.houseOf(0, 0), NONE);
            Due.due("a farm", x.coins(100), NONE);
            Due.due("a lot", x.lotOf(0, 0), NONE);
            Due.due("orders", x.rule(57, 399, 4), NONE);
            Due.due("a fault", x.fault(), NONE);
            HungerBooks other = new HungerBooks();
            Answers.land(other);
            for (int what = 0; what <= 9; what++) Due.due("count(" + what + ") beside another", x.count(what), 0);
        });
    }

    private static void goods() {
        Sentences.promise(2);
        Sentences.holds("A GOOD's MEASURES (0 to 999)", () -> {
            for (int measures : new int[] {0, 1, 999}) {
                HungerBooks x = oneHouse(1);
                Due.due("good of " + measures, x.good(2, measures, 10), true);
                x.deal(x.crop(0, 2, 1), 1, 0, 0);
                x.pass(1);
                Due.due("what a piece feeds", x.houseOf(0, 1), measures);
            }
        });
        Sentences.holds("KEEPS (1 to 400): true", () -> {
            for (int keeps : new int[] {1, 2, 398, 399, 400}) {
                HungerBooks x = oneHouse(1);
                Due.due("good that keeps " + keeps, x.good(2, 5, keeps), true);
                x.crop(0, 2, 1);
                Due.passTo(x, Math.min(399, keeps));
                Due.due("it is there on day " + x.count(0), x.count(8), 1);
                if (keeps < 399) {
                    x.pass(1);
                    Due.due("it is not on day " + x.count(0), x.count(8), 0);
                }
            }
        });
        Sentences.holds("false, doing nothing: not as told", () -> {
            int[][] wrong = {{-1, 1, 1}, {6, 1, 1}, {0, -1, 1}, {0, 1000, 1}, {0, 1, 0}, {0, 1, 401}, {MIN, 1, 1}, {MAX, 1, 1},
                {5, MIN, 1}, {5, MAX, 1}, {5, 1, MIN}, {5, 1, MAX}};
            for (int[] w : wrong) {
                Answers.unchanged("good(" + w[0] + ", " + w[1] + ", " + w[2] + ")", BoundsOfHousesTest::withoutLots,
                        x -> x.good(w[0], w[1], w[2]) ? 1 : 0, 0);
            }
        });
        Sentences.holds("LOTS are there.", () -> {
            Answers.unchanged("good with lots there", Answers::land, x -> x.good(0, 1, 1) ? 1 : 0, 0);
            Answers.unchanged("good with one lot there", x -> {
                withoutLots(x);
                x.crop(0, 0, 1);
            }, x -> x.good(0, 1, 1) ? 1 : 0, 0);
            Answers.unchanged("good with empty lots there", x -> {
                withoutLots(x);
                x.seize(x.crop(0, 0, 1));
                Due.passTo(x, 20);
            }, x -> x.good(0, 1, 1) ? 1 : 0, 0);
        });
    }

    private static void withoutLots(HungerBooks x) {
        x.farm(3, 0);
        x.house(0, 3, 100, 0, 0);
        x.good(0, 100, 9);
        x.good(5, 50, 2);
    }

    private static void houses() {
        Sentences.promise(3);
        Sentences.holds("A HOUSE (coins 0 to 99,999, GARDEN 0 to 99,999): its number.", () -> {
            HungerBooks x = new HungerBooks();
            Due.tell(x, "ill 0;need 39682;", 0);
            Due.due("the least", x.house(0, 1, 0, NONE, 0), 0);
            Due.due("the most", x.house(5, 1, 99999, NONE, 99999), 1);
            Due.due("no coins", x.coins(0), 0);
            Due.due("all coins", x.coins(1), 99999);
            Due.due("no garden", x.judge(0, 1, 99999999, 2, 0), 1);
            // 277,774 are wanted, 111,109 given, 166,665 lack; 222,219 given lack 55,555; 166,664 given lack 111,110.
            Due.due("a garden above what lacks", x.judge(5, 1, 99999999, 2, 0), 0);
            Due.due("a garden below what lacks", x.judge(5, 1, 99999999, 1, 0), 1);
            Due.tell(x, "ill 0;need 23809;", 0);
            // 166,663 are wanted, 66,665 given: 99,998 lack.
            Due.due("just above what lacks", x.judge(5, 1, 99999999, 0, 0), 0);
            Due.tell(x, "ill 0;need 23810;", 0);
            // 166,670 are wanted, 66,668 given: 100,002 lack.
            Due.due("just below what lacks", x.judge(5, 1, 99999999, 0, 0), 1);
        });
        Sentences.holds("NONE, doing nothing: not as told", () -> {
            int[][] wrong = {{-1, 1, 0, NONE, 0}, {6, 1, 0, NONE, 0}, {0, 0, 0, NONE, 0}, {0, 10, 0, NONE, 0}, {0, 1, -1, NONE, 0},
                {0, 1, 100000, NONE, 0}, {0, 1, 0, -2, 0}, {0, 1, 0, 2, 0}, {0, 1, 0, NONE, -1}, {0, 1, 0, NONE, 100000},
                {0, MIN, 0, NONE, 0}, {0, MAX, 0, NONE, 0}, {0, 1, MIN, NONE, 0}, {0, 1, MAX, NONE, 0}, {0, 1, 0, MIN, 0},
                {0, 1, 0, MAX, 0}, {0, 1, 0, NONE, MIN}, {0, 1, 0, NONE, MAX}};
            for (int[] w : wrong) {
                Answers.unchanged("house " + java.util.Arrays.toString(w), Answers::land,
                        x -> x.house(w[0], w[1], w[2], w[3], w[4]), NONE);
            }
        });
        Sentences.holds("24 are there.", () -> Answers.unchanged("the 25th", x -> {
            x.farm(0, 0);
            for (int k = 0; k < 24; k++) x.house(0, 1, 0, NONE, 0);
        }, x -> x.house(0, 1, 0, NONE, 0), NONE));
    }

    private static void farms() {
        Sentences.promise(4);
        Sentences.holds("A FARM: its number.", () -> {
            HungerBooks x = new HungerBooks();
            for (int k = 0; k < 10; k++) Due.due("farm", x.farm(k, k % 6), k);
            Due.due("farms", x.count(2), 10);
        });
        Sentences.holds("NONE, doing nothing: not as told", () -> {
            int[][] wrong = {{-1, 0}, {16, 0}, {0, -1}, {0, 6}, {MIN, 0}, {MAX, 0}, {0, MIN}, {0, MAX}};
            for (int[] w : wrong) {
                Answers.unchanged("farm(" + w[0] + ", " + w[1] + ")", Answers::land, x -> x.farm(w[0], w[1]), NONE);
            }
        });
        Sentences.holds("10 are there.", () -> Answers.unchanged("the 11th", x -> {
            for (int k = 0; k < 10; k++) x.farm(k, 0);
        }, x -> x.farm(0, 0), NONE));
    }

    private static void die() {
        Sentences.promise(5);
        Sentences.holds("A MOUTH dies: how many are left.", () -> {
            HungerBooks x = oneHouse(9);
            for (int left = 8; left >= 1; left--) Due.due("die", x.die(0), left);
            Due.due("died", x.count(6), 8);
        });
        Sentences.holds("NONE, doing nothing: none such", () -> {
            for (int house : new int[] {MIN, -1, 3, 24, 100, MAX}) {
                Answers.unchanged("die(" + house + ")", Answers::land, x -> x.die(house), NONE);
            }
        });
        Sentences.holds("it's the last.", () -> {
            Answers.unchanged("die in a house of one", Answers::land, x -> x.die(1), NONE);
            Answers.unchanged("die in a house of nine when eight died", x -> {
                x.farm(0, 0);
                x.house(0, 9, 0, 0, 0);
                for (int k = 0; k < 8; k++) x.die(0);
            }, x -> x.die(0), NONE);
        });
    }

    private static void hear() {
        Sentences.promise(6);
        Sentences.holds("The OFFICE hears: of how many that it hadn't heard of.", () -> {
            HungerBooks x = oneHouse(9);
            Due.due("none died", x.hear(0), 0);
            for (int k = 0; k < 7; k++) x.die(0);
            Due.due("seven", x.hear(0), 7);
            Due.due("none anew", x.hear(0), 0);
            x.die(0);
            Due.due("one more", x.hear(0), 1);
            x.pass(1);
            Due.due("none anew the day behind", x.hear(0), 0);
            Due.due("it was heard of the day ahead", x.mouths(0, 0, 0), 1);
        });
        Sentences.holds("NONE: none such.", () -> {
            for (int house : new int[] {MIN, -1, 3, 24, 100, MAX}) {
                Answers.unchanged("hear(" + house + ")", Answers::land, x -> x.hear(house), NONE);
            }
        });
    }

    private static void mouths() {
        Sentences.promise(7);
        Sentences.holds("MOUTHS on a DAY (0 to 399), really (known NONE) or as KNOWN by a DAY.", () -> {
            HungerBooks x = oneHouse(4);
            Due.passTo(x, 398);
            x.die(0);
            x.pass(1);
            x.hear(0);
            int[][] rows = {{0, NONE, 4}, {397, NONE, 4}, {398, NONE, 3}, {399, NONE, 3}, {399, 398, 4}, {399, 399, 3},
                {398, 399, 3}, {397, 399, 4}, {0, 0, 4}};
            for (int[] r : rows) Due.due("mouths(0, " + r[0] + ", " + r[1] + ")", x.mouths(0, r[0], r[1]), r[2]);
        });
        Sentences.holds("NONE: none such.", () -> {
            HungerBooks x = oneHouse(4);
            for (int house : new int[] {MIN, -1, 1, 100, MAX}) Due.due("mouths of house " + house, x.mouths(house, 0, NONE), NONE);
            for (int day : new int[] {MIN, -1, 400, MAX}) Due.due("mouths on day " + day, x.mouths(0, day, NONE), NONE);
            for (int known : new int[] {MIN, -2, 400, MAX}) Due.due("mouths known by " + known, x.mouths(0, 0, known), NONE);
        });
    }

    private static void count() {
        Sentences.promise(38);
        Sentences.holds("0 TODAY, 1 HOUSES, 2 FARMS, 3 LOTS, 4 ORDERS", () -> {
            HungerBooks x = new HungerBooks();
            Answers.land(x);
            int[] want = {1, 3, 2, 10, 1};
            for (int what = 0; what < want.length; what++) Due.due("count(" + what + ")", x.count(what), want[what]);
            x.orders(3, 0);
            Due.due("orders with a fault are none", x.count(4), 1);
        });
        Sentences.holds("5 MOUTHS, 6 those that died", () -> {
            HungerBooks x = new HungerBooks();
            Answers.land(x);
            Due.due("the living of 3, 1 and 9", x.count(5), 11);
            Due.due("the dead, heard of or not", x.count(6), 2);
        });
        Sentences.holds("7 POSTS", () -> {
            HungerBooks x = new HungerBooks();
            for (int k = 1; k <= 20; k++) {
                x.post(k % 16, (k + 1) % 16, 1, 0);
                Due.due("posts", x.count(7), k);
            }
            x.post(0, 1, 1, 0);
            Due.due("posts when full", x.count(7), 20);
        });
        Sentences.holds("8 pieces of all LOTS now", () -> {
            HungerBooks x = oneHouse(1);
            x.crop(0, 0, 9999);
            x.crop(0, 5, 1);
            x.deliver(0, 100);
            x.seize(x.deal(0, 50, 0, 0));
            Due.due("what is handed on counts once", x.count(8), 10000);
            x.deal(0, 9, 0, 0);
            x.pass(1);
            Due.due("less what was eaten", x.count(8), 9995);
            x.pass(5);
            Due.due("less what spoiled", x.count(8), 1);
        });
        Sentences.holds("9 bytes on the tape.", () -> {
            HungerBooks x = new HungerBooks();
            for (int k = 1; k <= 25; k++) {
                x.feed(0, 0, 0, 0, 0);
                Due.due("bytes", x.count(9), 20 * k);
            }
            x.feed(0, 0, 0, 0, 0);
            Due.due("bytes of a full tape", x.count(9), 500);
            x.orders(0, 0);
            Due.due("bytes behind orders", x.count(9), 0);
        });
        Sentences.holds("NONE for others.", () -> {
            HungerBooks x = new HungerBooks();
            for (int what : new int[] {MIN, -1, 10, MAX}) Due.due("count(" + what + ")", x.count(what), NONE);
        });
    }
}
