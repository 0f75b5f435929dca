/** Promises 26 to 30: fake, dead, shortOf, field, elsewhere. */
public final class OfficeTest {
    private static final int NONE = HungerBooks.NONE;

    public static void main(String[] args) {
        falseOnes();
        forTheDead();
        shortOnes();
        fields();
        Due.end("OfficeTest");
    }

    private static void falseOnes() {
        HungerBooks x = new HungerBooks();
        x.farm(0, 0);
        x.farm(0, 1);
        x.house(0, 3, 999, NONE, 0);
        x.house(0, 2, 999, NONE, 0);
        x.house(1, 2, 999, NONE, 0);
        Due.tell(x, "card oil mouths;price oil 1;", 0);
        x.deliver(x.crop(0, 3, 90), 90);
        x.deliver(x.crop(1, 3, 90), 90);
        x.buy(0, 3, 3, false);
        Due.due("less than the cards", x.fake(0, 0, 3, 0), 0);
        x.buy(1, 3, 2, true);
        Due.due("just the cards", x.fake(0, 0, 3, 0), 0);
        x.buy(1, 3, 4, true);
        x.buy(2, 3, 9, true);
        Due.due("of town 0", x.fake(0, 0, 3, 0), 4);
        Due.due("of town 1", x.fake(1, 0, 3, 0), 7);
        Due.due("of a town without houses", x.fake(5, 0, 3, 0), 0);
        Due.due("of another good", x.fake(0, 0, 2, 0), 0);
        x.pass(7);
        x.die(0);
        x.buy(0, 3, 20, true);
        x.pass(1);
        x.hear(0);
        Due.due("of week 0", x.fake(0, 0, 3, 399), 4);
        Due.due("of week 1, as known by day 7", x.fake(0, 1, 3, 7), 15);
        Due.due("as known by day 8", x.fake(0, 1, 3, 8), 16);
        Due.due("of week 2", x.fake(0, 2, 3, 8), 0);
        Due.due("town 6", x.fake(6, 0, 3, 0), NONE);
        Due.due("town -1", x.fake(-1, 0, 3, 0), NONE);
        Due.due("week 58", x.fake(0, 58, 3, 0), NONE);
        Due.due("week -1", x.fake(0, -1, 3, 0), NONE);
        Due.due("good 6", x.fake(0, 0, 6, 0), NONE);
        Due.due("known 400", x.fake(0, 0, 3, 400), NONE);
        Due.due("known -1", x.fake(0, 0, 3, -1), NONE);
        // A piece that was handed on was bought all the same.
        x.seize(x.count(3) - 1);
        Due.due("of week 1 still", x.fake(0, 1, 3, 8), 16);
    }

    private static void forTheDead() {
        HungerBooks x = new HungerBooks();
        x.farm(0, 0);
        x.house(0, 4, 999, NONE, 0);
        Due.tell(x, "card oil mouths*2;price oil 1;", 0);
        x.deliver(x.crop(0, 3, 90), 90);
        x.buy(0, 3, 9, true);
        Due.due("forged ones don't count", x.dead(0, 0, 3), 0);
        x.buy(0, 3, 7, false);
        Due.due("none died", x.dead(0, 0, 3), 0);
        x.pass(1);
        x.die(0);
        Due.due("died behind the week's first day", x.dead(0, 0, 3), 0);
        x.pass(6);
        x.die(0);
        x.buy(0, 3, 8, false);
        Due.due("two died, none is known", x.dead(0, 1, 3), 4);
        x.hear(0);
        Due.due("known or not", x.dead(0, 1, 3), 4);
        Due.due("week 0 still", x.dead(0, 0, 3), 0);
        Due.due("another good", x.dead(0, 1, 2), 0);
        Due.due("another week", x.dead(0, 2, 3), 0);
        Due.tell(x, "card oil mouths;", 1);
        Due.due("by the orders known today", x.dead(0, 1, 3), 6);
        Due.tell(x, "card oil 99;", 0);
        Due.due("of the latest week", x.dead(0, 1, 3), 6);
        Due.due("week 0 by the new ones", x.dead(0, 0, 3), 0);
        Due.due("house 1", x.dead(1, 0, 3), NONE);
        Due.due("house -1", x.dead(-1, 0, 3), NONE);
        Due.due("week 58", x.dead(0, 58, 3), NONE);
        Due.due("week -1", x.dead(0, -1, 3), NONE);
        Due.due("good 6", x.dead(0, 0, 6), NONE);
        Due.due("good -1", x.dead(0, 0, -1), NONE);
    }

    private static void shortOnes() {
        HungerBooks x = new HungerBooks();
        x.farm(0, 0);
        x.farm(0, 0);
        Due.tell(x, "quota oil came;quota egg 20;", 0);
        int oil = x.crop(0, 3, 50);
        Due.due("all of it", x.shortOf(0, 0, 3, 0), 50);
        x.deliver(oil, 10);
        x.deliver(oil, 5);
        Due.due("less what it delivered", x.shortOf(0, 0, 3, 0), 35);
        Due.due("another farm", x.shortOf(1, 0, 1, 0), 20);
        int eggs = x.crop(0, 1, 99);
        x.deliver(x.deal(eggs, 30, 101, 0), 8);
        Due.due("of what was dealt to it too", x.shortOf(1, 0, 1, 0), 12);
        Due.due("it isn't the other's", x.shortOf(0, 0, 1, 0), 20);
        x.pass(7);
        Due.tell(x, "quota egg 50;", 0);
        x.deliver(eggs, 45);
        Due.due("as known ahead, 0 at least", x.shortOf(0, 1, 1, 6), 0);
        Due.due("as known now", x.shortOf(0, 1, 1, 7), 5);
        Due.due("another week", x.shortOf(0, 0, 1, 6), 20);
        Due.due("a week to come", x.shortOf(0, 57, 1, 7), 50);
        Due.due("farm 2", x.shortOf(2, 0, 1, 0), NONE);
        Due.due("farm -1", x.shortOf(-1, 0, 1, 0), NONE);
        Due.due("week 58", x.shortOf(0, 58, 1, 0), NONE);
        Due.due("week -1", x.shortOf(0, -1, 1, 0), NONE);
        Due.due("good 6", x.shortOf(0, 0, 6, 0), NONE);
        Due.due("known 400", x.shortOf(0, 0, 1, 400), NONE);
        Due.due("known -1", x.shortOf(0, 0, 1, -1), NONE);
    }

    private static void fields() {
        HungerBooks x = new HungerBooks();
        x.farm(0, 0);
        x.farm(0, 0);
        Due.due("at first", x.elsewhere(0, 3, 0, 57, 1), 0);
        Due.due("farm 2", x.field(2, 0, 0, 0), false);
        Due.due("farm -1", x.field(-1, 0, 0, 0), false);
        Due.due("good 6", x.field(0, 6, 0, 0), false);
        Due.due("good -1", x.field(0, -1, 0, 0), false);
        Due.due("from -1", x.field(0, 0, -1, 0), false);
        Due.due("to 10000", x.field(0, 0, 0, 10000), false);
        Due.due("from above to", x.field(0, 0, 2, 1), false);
        Due.due("the most", x.field(0, 0, 9999, 9999), true);
        Due.due("58 weeks", x.elsewhere(0, 0, 0, 57, 0), 579942);
        Due.due("field", x.field(0, 3, 4, 7), true);
        Due.due("from above to does nothing", x.field(0, 3, 9, 8), false);
        int oil = x.crop(0, 3, 90);
        x.deliver(oil, 5);
        x.pass(14);
        x.deliver(oil, 10);
        int[][] rows = {{0, 0, 0, 0}, {0, 0, 1, 2}, {1, 1, 0, 4}, {1, 1, 1, 7}, {0, 1, 0, 3}, {0, 1, 1, 9}, {2, 2, 0, 0},
            {2, 2, 1, 0}, {0, 2, 0, 0}, {0, 2, 1, 6}, {0, 57, 0, 217}, {3, 57, 1, 385}};
        for (int[] r : rows) {
            Due.due("elsewhere in " + r[0] + " to " + r[1] + ", " + r[2], x.elsewhere(0, 3, r[0], r[1], r[2]), r[3]);
        }
        Due.due("of another farm", x.elsewhere(1, 3, 0, 9, 1), 0);
        Due.due("told again", x.field(0, 3, 0, 0), true);
        Due.due("nothing may have come", x.elsewhere(0, 3, 0, 57, 1), 0);
        Due.due("farm 2", x.elsewhere(2, 3, 0, 1, 0), NONE);
        Due.due("farm -1", x.elsewhere(-1, 3, 0, 1, 0), NONE);
        Due.due("good 6", x.elsewhere(0, 6, 0, 1, 0), NONE);
        Due.due("good -1", x.elsewhere(0, -1, 0, 1, 0), NONE);
        Due.due("a above b", x.elsewhere(0, 3, 2, 1, 0), NONE);
        Due.due("a -1", x.elsewhere(0, 3, -1, 1, 0), NONE);
        Due.due("b 58", x.elsewhere(0, 3, 0, 58, 0), NONE);
        Due.due("what 2", x.elsewhere(0, 3, 0, 1, 2), NONE);
        Due.due("what -1", x.elsewhere(0, 3, 0, 1, -1), NONE);
    }
}
