import java.util.ArrayList;
import java.util.List;
import java.util.function.Consumer;
import java.util.function.ToLongFunction;

/**
 * All that can be asked of an object, so that a refused call can be seen to have done nothing. The questions go to
 * objects that are built anew, some at a time: none of them has more than 512 calls.
 */
final class Answers {
    /** What builds an object makes at most some 400 calls. */
    private static final int AT_A_TIME = 100;
    private static final int NONE = HungerBooks.NONE;
    private static final List<ToLongFunction<HungerBooks>> QUESTIONS = new ArrayList<>();
    private static final int[] WEEKS = {0, 1, 57};
    private static final int[] KNOWN = {0, 7, 399};

    static {
        ask(x -> x.fault());
        for (int what = 0; what <= 9; what++) askCount(what);
        for (int lot = 0; lot < 400; lot++) askLot(lot);
        for (int lot = 0; lot < 6; lot++) askLed(lot);
        for (int house = 0; house < 24; house++) askHouse(house);
        for (int farm = 0; farm < 10; farm++) askFarm(farm);
        for (int week : WEEKS) {
            for (int known : KNOWN) askRules(week, known);
        }
        for (int town = 0; town < 6; town++) askTown(town);
        for (int desk = 0; desk < 12; desk++) askDesk(desk);
        for (int place = 0; place < 16; place++) askPlace(place);
    }

    private Answers() {
    }

    private static void ask(ToLongFunction<HungerBooks> question) {
        QUESTIONS.add(question);
    }

    private static void askCount(int what) {
        ask(x -> x.count(what));
    }

    private static void askLot(int lot) {
        for (int what : new int[] {1, 2, 4, 5, 7, 8}) ask(x -> x.lotOf(lot, what));
    }

    private static void askLed(int lot) {
        for (int what = 0; what <= 5; what++) {
            int kind = what;
            ask(x -> x.led(lot, kind));
        }
    }

    private static void askHouse(int house) {
        ask(x -> x.coins(house));
        ask(x -> x.lack(house, 0));
        for (int day : KNOWN) {
            ask(x -> x.mouths(house, day, NONE));
            ask(x -> x.mouths(house, day, 0));
            ask(x -> x.mouths(house, day, 399));
        }
        for (int k = 0; k < 6; k++) {
            int each = k;
            ask(x -> x.houseOf(house, each));
            ask(x -> x.card(house, 0, each, 0));
            ask(x -> x.card(house, 1, each, 399));
            ask(x -> x.dead(house, 0, each));
        }
    }

    private static void askFarm(int farm) {
        ask(x -> x.coins(100 + farm));
        for (int g = 0; g < 6; g++) {
            int good = g;
            ask(x -> x.quota(farm, 0, good, 399));
            ask(x -> x.shortOf(farm, 0, good, 399));
            ask(x -> x.elsewhere(farm, good, 0, 1, 0));
            ask(x -> x.elsewhere(farm, good, 0, 57, 1));
        }
    }

    private static void askRules(int week, int known) {
        for (int k = 0; k <= 15; k++) {
            int what = k;
            ask(x -> x.rule(week, known, what));
        }
    }

    private static void askTown(int town) {
        for (int g = 0; g < 6; g++) {
            int good = g;
            ask(x -> x.fake(town, 0, good, 399));
        }
        for (int what : new int[] {0, 1, 10, 11}) ask(x -> x.plan(town, 2, 40000, what));
        ask(x -> x.judge(town, 2, 99999999, 6, 0));
        ask(x -> x.judge(town, 2, 99999999, 6, 1));
    }

    private static void askDesk(int desk) {
        for (int what : new int[] {0, 1, 10, 11}) ask(x -> x.round(desk, what));
    }

    private static void askPlace(int place) {
        for (int to : new int[] {0, 1, 2, 15}) {
            for (int day = 0; day <= 2; day++) {
                int on = day;
                ask(x -> x.way(on, place, to, 0));
                ask(x -> x.way(on, place, to, 1));
            }
        }
    }

    static List<Long> of(Consumer<HungerBooks> build) {
        List<Long> all = new ArrayList<>();
        for (int from = 0; from < QUESTIONS.size(); from += AT_A_TIME) {
            HungerBooks x = built(build);
            int to = Math.min(from + AT_A_TIME, QUESTIONS.size());
            for (int k = from; k < to; k++) all.add(QUESTIONS.get(k).applyAsLong(x));
        }
        tapeOf(built(build), all);
        mealsOf(built(build), all);
        ticketsOf(built(build), all);
        parcelsOf(built(build), all);
        return all;
    }

    private static HungerBooks built(Consumer<HungerBooks> build) {
        HungerBooks x = new HungerBooks();
        build.accept(x);
        return x;
    }

    // What no question tells is seen by deeds, each kind on an object of its own.

    private static void tapeOf(HungerBooks x, List<Long> all) {
        all.add((long) x.orders(x.count(9), 0));
        all.add((long) x.fault());
        for (int what = 0; what < 4; what++) all.add((long) x.rule(0, 399, what));
    }

    private static void mealsOf(HungerBooks x, List<Long> all) {
        for (int g = 0; g < 6; g++) {
            int crop = x.crop(0, g, 4);
            all.add((long) x.deal(crop, 2, 0, 0));
        }
        for (int k = 0; k < 8; k++) {
            x.pass(1);
            all.add(x.houseOf(0, 1));
            all.add((long) x.count(8));
        }
        x.pass(60);
        all.add((long) x.count(8));
    }

    private static void ticketsOf(HungerBooks x, List<Long> all) {
        for (int house = 0; house < 3; house++) {
            for (int k = 0; k < 12; k++) all.add(x.buy(house, 0, 1, false));
        }
    }

    private static void parcelsOf(HungerBooks x, List<Long> all) {
        int crop = x.crop(0, 3, 20);
        for (int k = 0; k < 8; k++) all.add((long) x.parcel(crop, 1, 0));
    }

    /** A call on an object so built answers as wanted, and all else stays as it was. */
    static void unchanged(String call, Consumer<HungerBooks> build, ToLongFunction<HungerBooks> refused, long want) {
        Due.due(call, refused.applyAsLong(built(build)), want);
        List<Long> ahead = of(build);
        List<Long> behind = of(build.andThen(x -> refused.applyAsLong(x)));
        for (int k = 0; k < ahead.size(); k++) {
            if (!ahead.get(k).equals(behind.get(k))) {
                Due.due("answer " + k + " behind " + call, behind.get(k), ahead.get(k));
                return;
            }
        }
    }

    /** A land in which most things have happened once. */
    static void land(HungerBooks x) {
        x.farm(3, 0);
        x.farm(15, 1);
        x.house(0, 3, 100, 0, 0);
        x.house(0, 1, 50, NONE, 700);
        x.house(1, 9, 99999, 1, 99999);
        Due.tell(x, "card bread mouths*2;price bread 4;quota roots came/2;quota bread 9;fine 7;", 0);
        x.crop(0, 0, 30);
        x.crop(0, 4, 30);
        x.crop(1, 0, 40);
        x.deliver(0, 12);
        x.deliver(2, 20);
        x.buy(0, 0, 4, false);
        x.buy(1, 0, 3, true);
        x.parcel(0, 2, 0);
        x.deal(1, 5, 1, 30);
        x.die(0);
        x.pass(1);
        x.seize(1);
        x.hear(0);
        x.die(2);
        x.field(0, 4, 3, 40);
        x.exchange(0, 1, 2, 3);
        x.exchange(1, 0, 1, 1);
        x.road(0, 1, 5);
        x.road(1, 2, 6);
        x.post(0, 1, 2, 0);
        Due.feed(x, "ill 77;");
    }
}
