/** Promises 20, 24, 25 and 38: pass, houseOf, lack, count. */
public final class DaysTest {
    private static final int NONE = HungerBooks.NONE;

    public static void main(String[] args) {
        bounds();
        orderOfMeals();
        cutUp();
        illDays();
        rulesByDays();
        parcelsEaten();
        spoiling();
        lateHouse();
        counts();
        Due.end("DaysTest");
    }

    private static HungerBooks oneHouse(int mouths) {
        HungerBooks x = new HungerBooks();
        x.farm(0, 0);
        x.house(0, mouths, 0, 0, 0);
        return x;
    }

    private static void houseOf(HungerBooks x, int house, long... want) {
        for (int what = 0; what < want.length; what++) {
            Due.due("houseOf(" + house + ", " + what + ")", x.houseOf(house, what), want[what]);
        }
    }

    private static void bounds() {
        HungerBooks x = new HungerBooks();
        Due.due("pass(0)", x.pass(0), NONE);
        Due.due("pass(-1)", x.pass(-1), NONE);
        Due.due("pass(61)", x.pass(61), NONE);
        for (int k = 1; k <= 6; k++) Due.due("pass(60)", x.pass(60), 60 * k);
        Due.due("above 399", x.pass(40), NONE);
        Due.due("pass(38)", x.pass(38), 398);
        Due.due("above 399", x.pass(2), NONE);
        Due.due("the last day", x.pass(1), 399);
        Due.due("none behind it", x.pass(1), NONE);
        Due.due("today", x.count(0), 399);
        x.house(0, 1, 0, NONE, 0);
        Due.due("house 1", x.houseOf(1, 0), NONE);
        Due.due("house -1", x.houseOf(-1, 0), NONE);
        Due.due("houseOf 6", x.houseOf(0, 6), NONE);
        Due.due("houseOf -1", x.houseOf(0, -1), NONE);
        Due.due("lack today", x.lack(0, 399), NONE);
    }

    /** By the day on which they'd spoil, then by numbers; smoke is not eaten. */
    private static void orderOfMeals() {
        HungerBooks x = oneHouse(1);
        Due.tell(x, "need 300;", 0);
        int smoke = x.deal(x.crop(0, 5, 4), 4, 0, 0);
        int oil = x.deal(x.crop(0, 3, 9), 9, 0, 0);
        int meatCrop = x.crop(0, 2, 9);
        int meat = x.deal(meatCrop, 1, 0, 0);
        x.pass(1);
        Due.due("meat first", x.lotOf(meat, 7), 1);
        Due.due("then oil", x.lotOf(oil, 7), 1);
        x.pass(4);
        Due.due("oil day by day", x.lotOf(oil, 7), 5);
        // Day 5: meat spoils on day 10, and so does bread; the lot with the lower number is eaten first.
        int bread = x.deal(x.crop(0, 0, 1), 1, 0, 0);
        int later = x.deal(meatCrop, 1, 0, 0);
        int last = x.deal(meatCrop, 1, 0, 0);
        x.pass(1);
        Due.due("bread, the lower number", x.lotOf(bread, 7), 1);
        Due.due("meat of the same day", x.lotOf(later, 7), 1);
        Due.due("the higher number stays", x.lotOf(last, 7), 0);
        x.pass(1);
        Due.due("ahead of oil", x.lotOf(last, 7), 1);
        Due.due("smoke is not eaten", x.lotOf(smoke, 7), 0);
        houseOf(x, 0, 4 + 3, 150 + 300 + 4 * 300 + 200 + 150 + 150 + 300, 0, 0, 0, 0);
    }

    /** Pieces are whole: what is eaten may be above what is wanted, and is no lack the next day. */
    private static void cutUp() {
        HungerBooks x = oneHouse(2);
        Due.tell(x, "need 250;", 0);
        int bread = x.deal(x.crop(0, 0, 7), 7, 0, 0);
        x.pass(1);
        Due.due("500 of 200", x.lotOf(bread, 7), 3);
        houseOf(x, 0, 4, 600, 0, 0, 0, 0);
        x.pass(1);
        Due.due("500 of 200 again", x.lotOf(bread, 7), 6);
        x.pass(1);
        Due.due("what is there", x.lotOf(bread, 7), 7);
        Due.due("lack", x.lack(0, 2), 300);
        Due.due("no lack", x.lack(0, 1), 0);
        houseOf(x, 0, 0, 1400, 300, 0, 300, 0);
        Due.tell(x, "need 200;", 0);
        int two = x.deal(x.crop(0, 0, 9), 9, 0, 0);
        x.pass(1);
        Due.due("400 of 200", x.lotOf(two, 7), 2);
        x.die(0);
        x.pass(1);
        Due.due("one mouth less eats", x.lotOf(two, 7), 3);
        Due.due("lack, none such day", x.lack(0, 5), NONE);
        Due.due("lack of day -1", x.lack(0, -1), NONE);
        Due.due("lack of house 1", x.lack(1, 0), NONE);
        Due.due("lack of house -1", x.lack(-1, 0), NONE);
    }

    /** ILL by the lack of seven days against what is wanted that day. */
    private static void illDays() {
        HungerBooks x = oneHouse(1);
        // Nothing to eat: on day d the lack is d + 1 days' need up to seven; above 3 from day 3 on.
        x.pass(3);
        houseOf(x, 0, 0, 0, 3000, 0, 3000, 0);
        x.pass(1);
        houseOf(x, 0, 0, 0, 4000, 1, 4000, 0);
        x.pass(10);
        Due.due("each day behind it", x.houseOf(0, 3), 11);
        HungerBooks y = oneHouse(1);
        Due.tell(y, "ill 700;", 0);
        y.pass(20);
        Due.due("seven days are never above seven", y.houseOf(0, 3), 0);
        HungerBooks z = oneHouse(1);
        Due.tell(z, "ill 699;", 0);
        z.pass(20);
        Due.due("just above", z.houseOf(0, 3), 14);
        HungerBooks w = oneHouse(1);
        Due.tell(w, "ill 0;need 1;", 0);
        w.deal(w.crop(0, 4, 1), 1, 0, 0);
        w.pass(1);
        Due.due("no lack is not above 0", w.houseOf(0, 3), 0);
        w.pass(1);
        Due.due("any lack is", w.houseOf(0, 3), 1);
        HungerBooks v = oneHouse(2);
        v.pass(6);
        v.die(0);
        // Six days of 2000 and one of 1000 against 3 times 1000.
        v.pass(1);
        Due.due("ill on days 3 to 6", v.houseOf(0, 3), 4);
        Due.due("lack", v.houseOf(0, 2), 13000);
        HungerBooks u = oneHouse(1);
        Due.tell(u, "need 999999;ill 999999;", 0);
        u.pass(60);
        Due.due("large numbers", u.houseOf(0, 2), 59999940L);
        Due.due("large numbers, never ill", u.houseOf(0, 3), 0);
    }

    private static void rulesByDays() {
        HungerBooks x = oneHouse(1);
        Due.tell(x, "need 10;", 1);
        x.pass(7);
        Due.due("need of week 0", x.lack(0, 6), 1000);
        x.pass(2);
        Due.due("need of week 1", x.lack(0, 7), 10);
        Due.tell(x, "need 20;", 1);
        x.pass(1);
        Due.due("as known that day", x.lack(0, 9), 20);
        Due.due("not changed behind it", x.lack(0, 8), 10);
        Due.due("ill all days from 3 to 9", x.houseOf(0, 3), 7);
    }

    private static void parcelsEaten() {
        HungerBooks x = oneHouse(1);
        x.house(0, 1, 0, NONE, 0);
        int crop = x.crop(0, 0, 50);
        int parcel = x.parcel(crop, 5, 0);
        x.deal(crop, 1, 0, 0);
        x.deal(parcel, 1, 1, 0);
        x.pass(1);
        // Four of the parcel and one dealt; the other house ate one that was dealt on.
        houseOf(x, 0, 0, 1000, 0, 0, 800, 0);
        houseOf(x, 1, 0, 200, 800, 0, 800, 0);
        x.pass(1);
        houseOf(x, 0, 0, 1000, 1000, 0, 1800, 0);
    }

    /** A lot spoils behind the meals of its last day, wherever it is. */
    private static void spoiling() {
        HungerBooks x = oneHouse(1);
        x.good(0, 200, 1);
        int crop = x.crop(0, 0, 30);
        int shop = x.deliver(crop, 4);
        int home = x.deal(crop, 9, 0, 0);
        int police = x.seize(x.deal(crop, 3, 0, 0));
        x.pass(1);
        Due.due("none on its first day", x.lotOf(crop, 8) + x.lotOf(shop, 8) + x.lotOf(home, 8) + x.lotOf(police, 8), 0);
        x.pass(1);
        Due.due("on the farm", x.lotOf(crop, 8), 14);
        Due.due("in the shop", x.lotOf(shop, 8), 4);
        Due.due("with the police", x.lotOf(police, 8), 3);
        Due.due("eaten first", x.lotOf(home, 7), 9);
        Due.due("the rest", x.lotOf(home, 8), 0);
        Due.due("no pieces", x.count(8), 0);
        int more = x.crop(0, 0, 2);
        x.pass(1);
        int late = x.deal(more, 1, 0, 0);
        Due.due("born with its crop", x.lotOf(late, 6), 2);
        x.pass(1);
        Due.due("it spoils with its crop", x.lotOf(more, 8), 1);
        Due.due("or is eaten that day", x.lotOf(late, 7), 1);
    }

    private static void lateHouse() {
        HungerBooks x = oneHouse(1);
        x.pass(10);
        x.house(0, 1, 0, NONE, 0);
        x.pass(3);
        Due.due("no lack ahead of it", x.lack(1, 5), 0);
        Due.due("lack", x.lack(1, 10), 1000);
        Due.due("lack ever", x.houseOf(1, 2), 3000);
        Due.due("not ill yet", x.houseOf(1, 3), 0);
        x.pass(1);
        Due.due("ill now", x.houseOf(1, 3), 1);
    }

    private static void counts() {
        HungerBooks x = new HungerBooks();
        x.farm(0, 0);
        x.farm(0, 0);
        x.house(0, 4, 0, NONE, 0);
        x.house(0, 3, 0, NONE, 0);
        x.house(0, 2, 0, NONE, 0);
        x.die(0);
        x.die(0);
        x.die(1);
        x.pass(2);
        x.deal(x.crop(0, 3, 20), 4, 0, 0);
        x.crop(1, 5, 7);
        x.deliver(2, 1);
        Due.tell(x, "ill 1;", 0);
        Due.tell(x, "ill;", 0);
        Due.feed(x, "x");
        x.road(0, 1, 1);
        x.post(0, 1, 1, 0);
        x.post(0, 1, 1, 0);
        x.post(0, 1, 1, 0);
        int[] want = {2, 3, 2, 4, 1, 6, 3, 3, 27, 20};
        for (int what = 0; what < want.length; what++) Due.due("count(" + what + ")", x.count(what), want[what]);
        Due.due("count(10)", x.count(10), NONE);
        Due.due("count(-1)", x.count(-1), NONE);
        x.pass(1);
        Due.due("pieces behind a day: four of oil are eaten", x.count(8), 23);
    }
}
