/** Promises 1 to 7: a new object, good, house, farm, die, hear, mouths. */
public final class HousesTest {
    private static final int NONE = HungerBooks.NONE;

    public static void main(String[] args) {
        newObject();
        goods();
        houses();
        farms();
        deaths();
        Due.end("HousesTest");
    }

    private static void newObject() {
        HungerBooks x = new HungerBooks();
        for (int what = 0; what <= 9; what++) Due.due("count(" + what + ") of a new object", x.count(what), 0);
        Due.due("fault() of a new object", x.fault(), NONE);
        Due.due("rule 4 of a new object", x.rule(0, 0, 4), NONE);
        Due.due("lotOf of a new object", x.lotOf(0, 0), NONE);
        Due.due("coins of no house", x.coins(0), NONE);
        Due.due("coins of no farm", x.coins(100), NONE);
        Due.due("NONE", HungerBooks.NONE, -1);
    }

    private static void goods() {
        HungerBooks x = new HungerBooks();
        Due.due("good(6,1,1)", x.good(6, 1, 1), false);
        Due.due("good(-1,1,1)", x.good(-1, 1, 1), false);
        Due.due("good(0,-1,1)", x.good(0, -1, 1), false);
        Due.due("good(0,1000,1)", x.good(0, 1000, 1), false);
        Due.due("good(0,1,0)", x.good(0, 1, 0), false);
        Due.due("good(0,1,401)", x.good(0, 1, 401), false);
        Due.due("good(0,999,400)", x.good(0, 999, 400), true);
        Due.due("good(4,0,1)", x.good(4, 0, 1), true);
        Due.due("good(5,7,1)", x.good(5, 7, 1), true);
        x.farm(0, 0);
        x.house(0, 1, 0, 0, 0);
        int smoke = x.deal(x.crop(0, 5, 3), 3, 0, 0);
        int roots = x.deal(x.crop(0, 4, 2), 2, 0, 0);
        int bread = x.deal(x.crop(0, 0, 2), 2, 0, 0);
        Due.due("good with lots there", x.good(0, 1, 1), false);
        x.pass(1);
        Due.due("smoke with measures is eaten", x.lotOf(smoke, 7), 3);
        Due.due("roots without measures are not eaten", x.lotOf(roots, 7), 0);
        Due.due("bread of 999: 1000 less 3 times 7, cut up", x.lotOf(bread, 7), 1);
        x.pass(1);
        Due.due("roots that keep a day", x.lotOf(roots, 8), 2);
        Due.due("bread that keeps 400 days", x.lotOf(bread, 8), 0);
        firstGoods();
        HungerBooks y = new HungerBooks();
        y.farm(0, 0);
        y.house(0, 1, 0, 0, 0);
        Due.due("one measure", y.good(0, 1, 1), true);
        y.crop(0, 0, 5);
        Due.due("good with one lot there", y.good(0, 2, 1), false);
        y.deal(0, 5, 0, 0);
        y.pass(1);
        Due.due("pieces of one measure are eaten", y.houseOf(0, 1), 5);
    }

    /** Each GOOD's first MEASURES by what one piece feeds, its KEEPS by the day on which it spoils. */
    private static void firstGoods() {
        int[] measures = {200, 80, 150, 300, 60, 0};
        int[] keeps = {5, 14, 10, 100, 60, 400};
        for (int g = 0; g < 6; g++) {
            HungerBooks x = new HungerBooks();
            x.farm(0, 0);
            x.house(0, 1, 0, 0, 0);
            int crop = x.crop(0, g, 2);
            x.deal(crop, 1, 0, 0);
            x.pass(1);
            Due.due("measures of good " + g, x.houseOf(0, 1), measures[g]);
            for (int left = keeps[g] - 1; left > 0; left -= 60) x.pass(Math.min(left, 60));
            Due.due("good " + g + " ahead of its last day", x.lotOf(crop, 8), 0);
            if (keeps[g] < 400) {
                x.pass(1);
                Due.due("good " + g + " behind its last day", x.lotOf(crop, 8), 1);
            }
        }
    }

    private static void houses() {
        HungerBooks x = new HungerBooks();
        Due.due("kin that isn't there", x.house(0, 1, 0, 0, 0), NONE);
        x.farm(0, 0);
        Due.due("kin", x.house(0, 1, 0, 0, 0), 0);
        Due.due("kin below NONE", x.house(0, 1, 0, -2, 0), NONE);
        Due.due("kin above", x.house(0, 1, 0, 1, 0), NONE);
        Due.due("town -1", x.house(-1, 1, 0, NONE, 0), NONE);
        Due.due("town 6", x.house(6, 1, 0, NONE, 0), NONE);
        Due.due("mouths 0", x.house(0, 0, 0, NONE, 0), NONE);
        Due.due("mouths 10", x.house(0, 10, 0, NONE, 0), NONE);
        Due.due("coins -1", x.house(0, 1, -1, NONE, 0), NONE);
        Due.due("coins 100000", x.house(0, 1, 100000, NONE, 0), NONE);
        Due.due("garden -1", x.house(0, 1, 0, NONE, -1), NONE);
        Due.due("garden 100000", x.house(0, 1, 0, NONE, 100000), NONE);
        Due.due("the most", x.house(5, 9, 99999, NONE, 99999), 1);
        Due.due("its coins", x.coins(1), 99999);
        Due.due("its mouths", x.mouths(1, 0, NONE), 9);
        for (int k = 2; k < 24; k++) Due.due("house " + k, x.house(1, 2, 3, NONE, 4), k);
        Due.due("the 25th", x.house(1, 2, 3, NONE, 4), NONE);
        Due.due("houses", x.count(1), 24);
    }

    private static void farms() {
        HungerBooks x = new HungerBooks();
        Due.due("place -1", x.farm(-1, 0), NONE);
        Due.due("place 16", x.farm(16, 0), NONE);
        Due.due("town -1", x.farm(0, -1), NONE);
        Due.due("town 6", x.farm(0, 6), NONE);
        Due.due("farms after wrong ones", x.count(2), 0);
        for (int k = 0; k < 10; k++) Due.due("farm " + k, x.farm(15, 5), k);
        Due.due("the 11th", x.farm(0, 0), NONE);
        Due.due("farms", x.count(2), 10);
        Due.due("its coins at first", x.coins(109), 0);
        Due.due("its shop", x.lotOf(x.deliver(x.crop(9, 0, 1), 1), 2), 205);
    }

    private static void deaths() {
        HungerBooks x = new HungerBooks();
        x.house(0, 4, 0, NONE, 0);
        x.house(0, 1, 0, NONE, 0);
        Due.due("die, none such", x.die(2), NONE);
        Due.due("die, none such", x.die(-1), NONE);
        Due.due("die, the last", x.die(1), NONE);
        Due.due("hear, none such", x.hear(2), NONE);
        Due.due("hear of none", x.hear(0), 0);
        x.pass(3);
        Due.due("die", x.die(0), 3);
        x.pass(2);
        Due.due("hear", x.hear(0), 1);
        Due.due("hear again", x.hear(0), 0);
        Due.due("die", x.die(0), 2);
        Due.due("die", x.die(0), 1);
        Due.due("die, the last of four", x.die(0), NONE);
        x.pass(1);
        Due.due("hear of two", x.hear(0), 2);
        // Died on days 3, 5, 5; heard of on 5, 6, 6.
        int[][] rows = {{2, NONE, 4}, {3, NONE, 3}, {4, NONE, 3}, {5, NONE, 1}, {399, NONE, 1}, {2, 399, 4},
            {3, 4, 4}, {3, 5, 3}, {5, 5, 3}, {5, 6, 1}, {4, 6, 3}, {0, 0, 4}, {399, 0, 4}, {399, 5, 3},
            {-1, NONE, NONE}, {400, NONE, NONE}, {0, 400, NONE}, {0, -2, NONE}};
        for (int[] r : rows) Due.due("mouths(0, " + r[0] + ", " + r[1] + ")", x.mouths(0, r[0], r[1]), r[2]);
        Due.due("mouths, none such", x.mouths(2, 0, NONE), NONE);
        Due.due("mouths, none such", x.mouths(-1, 0, NONE), NONE);
        Due.due("mouths in all", x.count(5), 2);
        Due.due("died in all", x.count(6), 3);
    }
}
