/** Promises 14 to 19 and 21 to 23: crop, deliver, buy, deal, parcel, seize, lotOf, led, coins. */
public final class LotsTest {
    private static final int NONE = HungerBooks.NONE;

    public static void main(String[] args) {
        crops();
        deliveries();
        purchases();
        parts();
        tickets();
        deals();
        parcels();
        seizures();
        leading();
        fullBooks();
        fullBooksAtPurchase();
        Due.end("LotsTest");
    }

    private static void lot(HungerBooks x, int lot, int... want) {
        for (int what = 0; what < want.length; what++) {
            Due.due("lotOf(" + lot + ", " + what + ")", x.lotOf(lot, what), want[what]);
        }
    }

    private static void crops() {
        HungerBooks x = new HungerBooks();
        Due.due("no farm", x.crop(0, 0, 1), NONE);
        x.farm(0, 0);
        Due.due("farm -1", x.crop(-1, 0, 1), NONE);
        Due.due("good 6", x.crop(0, 6, 1), NONE);
        Due.due("good -1", x.crop(0, -1, 1), NONE);
        Due.due("no piece", x.crop(0, 0, 0), NONE);
        Due.due("10000 pieces", x.crop(0, 0, 10000), NONE);
        Due.due("no lots", x.count(3), 0);
        Due.due("9999 pieces", x.crop(0, 3, 9999), 0);
        x.pass(4);
        Due.due("one piece", x.crop(0, 5, 1), 1);
        lot(x, 0, 3, 9999, 100, NONE, 0, 0, 0, 0, 0, 9999, 0);
        lot(x, 1, 5, 1, 100, NONE, 0, 0, 4, 0, 0, 1, 0);
        Due.due("lotOf 11", x.lotOf(0, 11), NONE);
        Due.due("lotOf -1", x.lotOf(0, -1), NONE);
        Due.due("lot 2", x.lotOf(2, 0), NONE);
        Due.due("lot -1", x.lotOf(-1, 0), NONE);
    }

    private static void deliveries() {
        HungerBooks x = new HungerBooks();
        x.farm(9, 5);
        x.house(5, 1, 99999, NONE, 0);
        Due.tell(x, "price egg 9999;price bread 3 if week=0;price bread 4;", 0);
        int eggs = x.crop(0, 1, 9999);
        Due.due("no piece", x.deliver(eggs, 0), NONE);
        Due.due("-1 pieces", x.deliver(eggs, -1), NONE);
        Due.due("too many", x.deliver(eggs, 10000), NONE);
        Due.due("no such lot", x.deliver(1, 1), NONE);
        Due.due("lot -1", x.deliver(-1, 1), NONE);
        Due.due("all", x.deliver(eggs, 9999), 1);
        Due.due("paid", x.coins(100), 99980001L);
        lot(x, 0, 1, 0, 100, NONE, 0, 0, 0, 0, 0, 9999, 0);
        lot(x, 1, 1, 9999, 205, 0, 1, 99980001, 0, 0, 0, 9999, 1);
        Due.due("an empty lot", x.deliver(eggs, 1), NONE);
        Due.due("a shop's lot", x.deliver(1, 1), NONE);
        x.pass(6);
        int bread = x.crop(0, 0, 10);
        Due.due("at this week's price", x.lotOf(x.deliver(bread, 2), 5), 6);
        x.pass(1);
        int late = x.deliver(bread, 3);
        lot(x, late, 0, 3, 205, bread, 1, 12, 6, 0, 0, 3, 1);
        Due.due("what is left", x.lotOf(bread, 1), 5);
        int dealt = x.deal(bread, 1, 0, 0);
        Due.due("a house's lot", x.deliver(dealt, 1), NONE);
        // A price told for the future or only later is not the one that is paid.
        Due.tell(x, "price bread 77;", 2);
        Due.due("orders of a later week", x.lotOf(x.deliver(bread, 1), 5), 4);
        Due.tell(x, "price bread 0;", 1);
        Due.due("orders told last", x.lotOf(x.deliver(bread, 1), 5), 0);
    }

    private static void purchases() {
        HungerBooks x = new HungerBooks();
        x.farm(0, 1);
        x.house(1, 1, 50, NONE, 0);
        x.house(2, 1, 50, NONE, 0);
        Due.tell(x, "card bread 3;price bread 9;", 0);
        x.deliver(x.crop(0, 0, 10), 10);
        Due.due("no house", x.buy(2, 0, 1, false), NONE);
        Due.due("house -1", x.buy(-1, 0, 1, true), NONE);
        Due.due("good 6", x.buy(0, 6, 1, false), NONE);
        Due.due("good -1", x.buy(0, -1, 1, false), NONE);
        Due.due("no piece", x.buy(0, 0, 0, false), NONE);
        Due.due("-5 pieces", x.buy(0, 0, -5, true), NONE);
        Due.due("more than there are, ahead of card and coins", x.buy(0, 0, 11, false), -2);
        Due.due("in another town", x.buy(1, 0, 1, true), -2);
        Due.due("another good", x.buy(0, 1, 1, true), -2);
        Due.due("above the card, ahead of coins", x.buy(0, 0, 10, false), -3);
        Due.due("not the coins", x.buy(0, 0, 6, true), -4);
        Due.due("nothing was done", x.coins(0), 50);
        Due.due("forged", x.buy(0, 0, 2, true), 18);
        Due.due("on tickets, forged ones don't count", x.buy(0, 0, 3, false), 27);
        Due.due("coins", x.coins(0), 5);
        lot(x, 2, 0, 2, 0, 1, 2, 18, 0, 0, 0, 2, 2);
        lot(x, 3, 0, 3, 0, 1, 2, 27, 0, 0, 0, 3, 2);
        Due.due("the shop has less", x.lotOf(1, 1), 5);
        Due.due("forged pieces alone", x.houseOf(0, 5), 2);
        Due.tell(x, "card bread 4;price bread 0;", 0);
        Due.due("for nothing", x.buy(0, 0, 1, false), 0);
        Due.due("above the card again", x.buy(0, 0, 1, false), -3);
        Due.due("forged again", x.buy(0, 0, 4, true), 0);
        Due.due("an empty shop", x.buy(0, 0, 1, true), -2);
        x.deliver(x.crop(0, 1, 3), 3);
        Due.tell(x, "price egg 5;", 0);
        Due.due("for all its coins", x.buy(0, 1, 1, true), 5);
        Due.due("none are left", x.coins(0), 0);
        Due.due("not the coins for one", x.buy(0, 1, 1, true), -4);
    }

    /** Of the LOTS there those BORN first, of one DAY by numbers. */
    private static void parts() {
        HungerBooks x = new HungerBooks();
        x.farm(0, 0);
        x.house(0, 1, 1000, NONE, 0);
        int old = x.crop(0, 3, 9);
        x.pass(1);
        int young = x.crop(0, 3, 9);
        int b = x.deliver(young, 2);
        int c = x.deliver(old, 3);
        int d = x.deliver(young, 1);
        int e = x.deliver(old, 1);
        x.deliver(x.crop(0, 2, 5), 5);
        Due.due("seven of three lots and one of a fourth", x.buy(0, 3, 7, true), 70);
        int first = e + 3;
        lot(x, first, 3, 3, 0, c, 2, 30, 0, 0, 0, 3, 2);
        lot(x, first + 1, 3, 1, 0, e, 2, 10, 0, 0, 0, 1, 2);
        lot(x, first + 2, 3, 2, 0, b, 2, 20, 1, 0, 0, 2, 2);
        lot(x, first + 3, 3, 1, 0, d, 2, 10, 1, 0, 0, 1, 2);
        Due.due("lots", x.count(3), first + 4);
        Due.due("its shop's lot is empty", x.lotOf(c, 1), 0);
    }

    /** A CARD holds for a WEEK, by what is KNOWN TODAY. */
    private static void tickets() {
        HungerBooks x = new HungerBooks();
        x.farm(0, 0);
        x.house(0, 4, 1000, NONE, 0);
        Due.tell(x, "card oil mouths;price oil 1;card roots 9;", 0);
        x.deliver(x.crop(0, 3, 50), 50);
        x.deliver(x.crop(0, 4, 50), 50);
        Due.due("of another good", x.buy(0, 4, 3, false), 30);
        Due.due("all of it", x.buy(0, 3, 4, false), 4);
        Due.due("one more", x.buy(0, 3, 1, false), -3);
        x.pass(6);
        x.die(0);
        Due.due("in the same week", x.buy(0, 3, 1, false), -3);
        x.pass(1);
        Due.due("in the next week for the dead too", x.buy(0, 3, 2, false), 2);
        x.hear(0);
        Due.due("as known today one less", x.buy(0, 3, 2, false), -3);
        Due.due("up to it", x.buy(0, 3, 1, false), 1);
        Due.due("no more", x.buy(0, 3, 1, false), -3);
    }

    private static void deals() {
        HungerBooks x = new HungerBooks();
        x.farm(0, 0);
        x.farm(0, 0);
        x.house(0, 1, 40, 0, 0);
        x.house(1, 1, 10, NONE, 0);
        int crop = x.crop(0, 0, 20);
        Due.due("no such lot", x.deal(1, 1, 0, 0), NONE);
        Due.due("lot -1", x.deal(-1, 1, 0, 0), NONE);
        Due.due("no piece", x.deal(crop, 0, 0, 0), NONE);
        Due.due("too many", x.deal(crop, 21, 0, 0), NONE);
        Due.due("its own", x.deal(crop, 1, 100, 0), NONE);
        Due.due("to no house", x.deal(crop, 1, 2, 0), NONE);
        Due.due("to no farm", x.deal(crop, 1, 102, 0), NONE);
        Due.due("to a shop", x.deal(crop, 1, 200, 0), NONE);
        Due.due("to the police", x.deal(crop, 1, 300, 0), NONE);
        Due.due("to -1", x.deal(crop, 1, -1, 0), NONE);
        Due.due("coins -1", x.deal(crop, 1, 0, -1), NONE);
        Due.due("coins 100000", x.deal(crop, 1, 0, 100000), NONE);
        Due.due("not the coins", x.deal(crop, 1, 0, 41), NONE);
        Due.due("all its coins", x.deal(crop, 5, 0, 40), 1);
        lot(x, 1, 0, 5, 0, crop, 3, 40, 0, 0, 0, 5, 1);
        Due.due("the taker's coins", x.coins(0), 0);
        Due.due("the giver's coins", x.coins(100), 40);
        x.pass(1);
        Due.due("from house to farm", x.deal(x.deal(crop, 2, 0, 0), 2, 101, 0), 3);
        lot(x, 3, 0, 2, 101, 2, 3, 0, 0, 0, 0, 2, 2);
        Due.due("farm to farm", x.deal(3, 1, 100, 7), 4);
        Due.due("paid by a farm", x.coins(100), 33);
        Due.due("paid to a farm", x.coins(101), 7);
        Due.due("to a house of another town", x.deal(4, 1, 1, 10), 5);
        Due.due("hands", x.lotOf(5, 10), 4);
        int shop = x.deliver(crop, 1);
        Due.due("a shop's", x.deal(shop, 1, 0, 0), NONE);
        int seized = x.seize(crop);
        Due.due("the police's", x.deal(seized, 1, 0, 0), NONE);
        Due.due("an empty one", x.deal(crop, 1, 0, 0), NONE);
        HungerBooks rich = new HungerBooks();
        rich.farm(0, 0);
        rich.house(0, 1, 99999, NONE, 0);
        Due.due("99999 coins", rich.deal(rich.crop(0, 0, 1), 1, 0, 99999), 1);
        Due.due("they are the giver's", rich.coins(100), 99999);
    }

    private static void parcels() {
        HungerBooks x = new HungerBooks();
        x.farm(0, 0);
        x.farm(0, 0);
        x.house(0, 1, 40, 0, 0);
        x.house(0, 1, 40, NONE, 0);
        x.house(3, 1, 40, 0, 0);
        int crop = x.crop(0, 3, 30);
        int other = x.crop(1, 3, 30);
        int roots = x.crop(0, 4, 30);
        Due.due("no such lot", x.parcel(3, 1, 0), NONE);
        Due.due("lot -1", x.parcel(-1, 1, 0), NONE);
        Due.due("no such house", x.parcel(crop, 1, 3), NONE);
        Due.due("house -1", x.parcel(crop, 1, -1), NONE);
        Due.due("no kin", x.parcel(crop, 1, 1), NONE);
        Due.due("another farm's", x.parcel(other, 1, 0), NONE);
        Due.due("no piece", x.parcel(crop, 0, 0), NONE);
        Due.due("too many", x.parcel(crop, 31, 0), NONE);
        Due.due("above PARCEL", x.parcel(crop, 6, 0), NONE);
        Due.due("three", x.parcel(crop, 3, 0), 3);
        lot(x, 3, 3, 3, 0, crop, 4, 0, 0, 0, 0, 3, 1);
        Due.due("above PARCEL together, another good too", x.parcel(roots, 3, 0), NONE);
        Due.due("up to PARCEL", x.parcel(roots, 2, 0), 4);
        Due.due("another house's", x.parcel(crop, 5, 2), 5);
        x.deal(3, 3, 1, 0);
        Due.due("what was handed on counts still", x.parcel(crop, 1, 0), NONE);
        Due.due("a house's lot", x.parcel(4, 1, 0), NONE);
        x.pass(7);
        Due.due("in the next week", x.parcel(crop, 5, 0), 7);
        Due.tell(x, "parcel 6;", 1);
        Due.due("another PARCEL", x.parcel(crop, 2, 0), NONE);
        Due.due("up to it", x.parcel(crop, 1, 0), 8);
        int dealt = x.deal(other, 2, 100, 0);
        Due.tell(x, "parcel 8;", 1);
        Due.due("a lot that was dealt to the kin", x.parcel(dealt, 2, 0), 10);
        Due.tell(x, "parcel 0;", 1);
        Due.due("PARCEL 0", x.parcel(crop, 1, 2), NONE);
        x.house(0, 1, 0, 1, 0);
        Due.tell(x, "parcel 1;", 1);
        Due.due("from the other farm to its kin", x.parcel(other, 1, 3), 11);
        Due.due("not from the first one", x.parcel(crop, 1, 3), NONE);
    }

    private static void seizures() {
        HungerBooks x = new HungerBooks();
        x.farm(0, 0);
        x.house(0, 1, 70, NONE, 0);
        int crop = x.crop(0, 3, 30);
        x.deal(crop, 4, 0, 0);
        x.deliver(crop, 5);
        x.deal(crop, 2, 0, 10);
        Due.due("no such lot", x.seize(4), NONE);
        Due.due("lot -1", x.seize(-1), NONE);
        Due.due("a shop's", x.seize(2), NONE);
        Due.due("a house's", x.seize(1), 4);
        lot(x, 4, 3, 4, 300, 1, 5, 0, 0, 0, 0, 4, 2);
        Due.due("FINE", x.coins(0), 10);
        Due.due("it is empty", x.lotOf(1, 1), 0);
        Due.due("an empty one", x.seize(1), NONE);
        Due.due("the police's", x.seize(4), NONE);
        Due.due("or what it has", x.seize(3), 5);
        Due.due("none left", x.coins(0), 0);
        Due.due("a farm's coins", x.coins(100), 60);
        Due.tell(x, "fine 1;", 0);
        Due.due("a farm's", x.seize(crop), 6);
        Due.due("its fine", x.coins(100), 59);
        lot(x, 6, 3, 19, 300, crop, 5, 0, 0, 0, 0, 19, 1);
        Due.due("coins of a shop", x.coins(200), NONE);
        Due.due("coins of the police", x.coins(300), NONE);
        Due.due("coins of house 1", x.coins(1), NONE);
        Due.due("coins of farm 1", x.coins(101), NONE);
        Due.due("coins of -1", x.coins(-1), NONE);
    }

    private static void led(HungerBooks x, int lot, int... want) {
        for (int what = 0; what < want.length; what++) Due.due("led(" + lot + ", " + what + ")", x.led(lot, what), want[what]);
    }

    private static void leading() {
        HungerBooks x = new HungerBooks();
        x.farm(0, 0);
        x.farm(0, 0);
        x.house(0, 1, 999, 0, 0);
        Due.tell(x, "need 400;", 0);
        int a = x.crop(0, 0, 100);
        int b = x.crop(0, 0, 9);
        x.deal(a, 10, 101, 0);
        int shop = x.deliver(a, 20);
        x.buy(0, 0, 5, true);
        int home = x.parcel(a, 3, 0);
        x.seize(x.deal(home, 1, 101, 0));
        x.seize(x.deal(a, 6, 0, 0));
        led(x, a, 71, 15, 7, 7, 0, 0);
        led(x, b, 9, 0, 0, 0, 0, 0);
        x.pass(2);
        led(x, a, 71, 15, 3, 7, 4, 0);
        x.pass(4);
        led(x, a, 0, 0, 0, 0, 7, 93);
        Due.due("led 6", x.led(a, 6), NONE);
        Due.due("led -1", x.led(a, -1), NONE);
        Due.due("no crop", x.led(shop, 0), NONE);
        Due.due("no lot", x.led(99, 0), NONE);
        Due.due("lot -1", x.led(-1, 0), NONE);
    }

    private static HungerBooks withLots(int lots) {
        HungerBooks x = new HungerBooks();
        x.farm(0, 0);
        x.house(0, 1, 999, 0, 0);
        x.crop(0, 3, 900);
        x.deal(0, 5, 0, 0);
        while (x.count(3) < lots) x.deliver(0, 1);
        return x;
    }

    private static void fullBooks() {
        HungerBooks x = withLots(399);
        Due.due("the 400th", x.crop(0, 0, 1), 399);
        long coins = x.coins(100);
        Due.due("crop", x.crop(0, 0, 1), NONE);
        Due.due("deliver", x.deliver(0, 1), NONE);
        Due.due("deal", x.deal(0, 1, 0, 3), NONE);
        Due.due("parcel", x.parcel(0, 1, 0), NONE);
        Due.due("seize", x.seize(0), NONE);
        Due.due("buy", x.buy(0, 3, 1, true), -5);
        Due.due("the farm's coins", x.coins(100), coins);
        Due.due("the house's coins", x.coins(0), 999);
        Due.due("lots", x.count(3), 400);
        Due.due("pieces", x.count(8), 901);
    }

    private static void fullBooksAtPurchase() {
        HungerBooks x = withLots(398);
        Due.due("three lots more", x.buy(0, 3, 3, true), -5);
        Due.due("not the coins, ahead of it", x.buy(0, 3, 100, true), -4);
        Due.due("nothing was bought", x.houseOf(0, 5), 0);
        Due.due("two lots more", x.buy(0, 3, 2, true), 20);
        Due.due("one lot more", x.buy(0, 3, 1, true), -5);
        Due.due("lots", x.count(3), 400);
    }
}
