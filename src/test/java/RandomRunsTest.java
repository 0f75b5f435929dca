import java.lang.reflect.Method;
import java.util.ArrayList;
import java.util.Arrays;
import java.util.List;
import java.util.Random;

/** Runs of random calls, most of them sensible, whose answers are held against the Oracle's. */
public final class RandomRunsTest {
    private static final int CALLS = 512;
    private static final String[] NAMES = {"good", "house", "farm", "die", "hear", "mouths", "feed", "orders", "fault",
        "rule", "card", "quota", "crop", "deliver", "buy", "deal", "parcel", "seize", "pass", "lotOf", "led", "coins",
        "houseOf", "lack", "fake", "dead", "shortOf", "field", "elsewhere", "exchange", "round", "road", "post", "way",
        "plan", "judge", "count"};
    private static final int[] WILD = {Integer.MIN_VALUE, Integer.MAX_VALUE, -1, -2, 0, 1, 57, 58, 99, 100, 101, 200,
        300, 399, 400, 9999, 10000, 99999, 100000};

    private final Random random;
    private final HungerBooks books = new HungerBooks();
    private final Oracle oracle = new Oracle();
    private final List<String> history = new ArrayList<>();
    private int made = 0;
    private int lastGood = 5;
    private int lastTown = 2;
    private boolean early = false;
    private boolean wrong = false;

    private RandomRunsTest(long seed) {
        random = new Random(seed);
    }

    public static void main(String[] args) throws Exception {
        int runs = args.length > 0 ? Integer.parseInt(args[0]) : 300;
        long first = args.length > 1 ? Long.parseLong(args[1]) : 1;
        int wrong = 0;
        for (long seed = first; seed < first + runs && wrong < 3; seed++) {
            RandomRunsTest run = new RandomRunsTest(seed);
            run.go((int) (seed % 8));
            if (run.wrong) {
                wrong++;
                System.out.println("seed " + seed + ":");
                List<String> h = run.history;
                for (String line : h) System.out.println("  " + line);
            }
        }
        System.out.println(wrong == 0 ? runs + " random runs are as due" : "random runs differ");
        if (wrong != 0) System.exit(1);
    }

    private int in(int a, int b) {
        return a + random.nextInt(b - a + 1);
    }

    private int wildly(int value) {
        return random.nextInt(60) == 0 ? WILD[random.nextInt(WILD.length)] : value;
    }

    private void go(int style) throws Exception {
        if (style >= 6) {
            lastGood = in(0, 1);
            lastTown = in(0, 1);
            early = true;
        }
        for (int k = in(1, style >= 6 ? 2 : 6); k > 0; k--) call("farm", in(0, 15), in(0, lastTown));
        for (int k = in(1, style == 1 ? 26 : 8); k > 0; k--) house();
        if (style >= 6) tellText(marketText());
        else if (style != 2) tell();
        while (made < CALLS && !wrong) {
            switch (style) {
                case 0 -> any();
                case 1 -> lots();
                case 2 -> texts();
                case 3 -> maps();
                case 4 -> plans();
                case 6 -> market();
                case 7 -> crowd();
                default -> {
                    if (random.nextInt(3) == 0) any();
                    else lots();
                }
            }
        }
    }

    private int kin() {
        return random.nextInt(4) == 0 ? -1 : in(0, Math.max(0, oracle.yards.size() - 1));
    }

    private void house() throws Exception {
        call("house", in(0, lastTown), in(1, 9), random.nextBoolean() ? in(0, 99999) : in(0, 300), kin(), in(0, 9000));
    }

    private int anyHouse() {
        return in(0, Math.max(0, oracle.homes.size() - (random.nextInt(30) == 0 ? 0 : 1)));
    }

    private int anyFarm() {
        return in(0, Math.max(0, oracle.yards.size() - (random.nextInt(30) == 0 ? 0 : 1)));
    }

    private int anyLot() {
        return in(0, Math.max(0, oracle.lots.size() - (random.nextInt(30) == 0 ? 0 : 1)));
    }

    /** A LOT of a FARM or HOUSE with pieces, if one is soon found. */
    private int liveLot(boolean ofFarm) {
        for (int k = 0; k < 40; k++) {
            int lot = anyLot();
            if (lot < oracle.lots.size() && oracle.lots.get(lot).now > 0
                    && (ofFarm ? oracle.lots.get(lot).holder / 100 == 1 : oracle.lots.get(lot).holder < 200)) return lot;
        }
        return anyLot();
    }

    private int someOf(int lot) {
        if (lot >= oracle.lots.size()) return 1;
        int now = oracle.lots.get(lot).now;
        return switch (random.nextInt(6)) {
            case 0 -> now;
            case 1 -> now + 1;
            default -> in(1, Math.max(1, Math.min(now, 12)));
        };
    }

    private int anyGood() {
        return in(0, lastGood);
    }

    private int anyWeek() {
        if (early) return in(0, Math.min(57, oracle.today / 7));
        return random.nextBoolean() ? oracle.today / 7 : in(0, 57);
    }

    private int anyDay() {
        return random.nextBoolean() ? oracle.today : random.nextBoolean() ? in(0, Math.max(0, oracle.today)) : in(0, 399);
    }

    /** Orders under which there is something to buy, to owe and to lack. */
    private String marketText() {
        String[] cards = {"mouths*3+kin", "9", "mouths*mouths", "(mouths-1)*5", "99/mouths", "4+town*9-week"};
        String[] quotas = {"came*2/3", "came+town*4+5", "90-came", "came*came", "week*7"};
        StringBuilder text = new StringBuilder();
        for (int g = 0; g < 2; g++) {
            text.append("card ").append(Oracle.GOOD_NAMES[g]).append(' ').append(cards[in(0, 5)]);
            text.append(random.nextBoolean() ? ";" : " if not{mouths<2 and week>0};");
            text.append("quota ").append(Oracle.GOOD_NAMES[g]).append(' ').append(quotas[in(0, 4)]).append(';');
            text.append("price ").append(Oracle.GOOD_NAMES[g]).append(' ').append(in(0, 6)).append("+week;");
        }
        text.append("need ").append(in(1, 600)).append(";ill ").append(in(0, 500)).append(';');
        text.append("parcel ").append(in(0, 30)).append(";fine ").append(in(0, 99)).append(';');
        return text.toString();
    }

    private void market() throws Exception {
        switch (random.nextInt(16)) {
            case 0 -> call("crop", anyFarm(), anyGood(), in(1, 60));
            case 1 -> {
                int lot = liveLot(true);
                call("deliver", lot, someOf(lot));
            }
            case 2, 3, 4 -> call("buy", anyHouse(), anyGood(), in(1, 12), random.nextInt(3) == 0 ? 1 : 0);
            case 5 -> call("pass", in(1, 3));
            case 6 -> {
                call("die", anyHouse());
                if (random.nextInt(3) == 0) call("hear", anyHouse());
            }
            case 7 -> {
                if (random.nextInt(8) == 0) tellText(marketText());
                else lots();
            }
            case 8, 9 -> lots();
            default -> ask();
        }
    }

    /** Soon 400 LOTS are there. */
    private void crowd() throws Exception {
        if (made < 440 && random.nextInt(20) > 0) {
            int lot = liveLot(random.nextInt(4) > 0);
            switch (random.nextInt(8)) {
                case 0 -> call("crop", anyFarm(), anyGood(), in(900, 999));
                case 1, 2, 3 -> call("deliver", lot, in(1, 3));
                case 4 -> call("buy", anyHouse(), anyGood(), in(1, 5), 1);
                default -> call("deal", lot, in(1, 3), random.nextBoolean() ? anyHouse() : 100 + anyFarm(), 0);
            }
        } else {
            switch (random.nextInt(3)) {
                case 0 -> call("buy", anyHouse(), anyGood(), in(1, 90), 1);
                case 1 -> lots();
                default -> ask();
            }
        }
    }

    private void lots() throws Exception {
        int lot;
        switch (random.nextInt(24)) {
            case 0, 1 -> call("crop", anyFarm(), anyGood(), random.nextInt(5) == 0 ? in(1, 9999) : in(1, 40));
            case 2, 3, 4 -> {
                lot = liveLot(true);
                call("deliver", lot, someOf(lot));
            }
            case 5, 6, 7 -> call("buy", anyHouse(), anyGood(), random.nextInt(8) == 0 ? in(1, 200) : in(1, 9), in(0, 1));
            case 8, 9 -> {
                lot = liveLot(false);
                call("deal", lot, someOf(lot), random.nextBoolean() ? anyHouse() : 100 + anyFarm(),
                        random.nextInt(4) == 0 ? in(0, 99999) : in(0, 60));
            }
            case 10, 11 -> {
                lot = liveLot(true);
                call("parcel", lot, someOf(lot), anyHouse());
            }
            case 12 -> call("seize", random.nextBoolean() ? liveLot(false) : anyLot());
            case 13, 14 -> call("pass", random.nextInt(20) == 0 ? in(0, 61) : in(1, 4));
            case 15 -> call("die", anyHouse());
            case 16 -> call("hear", anyHouse());
            case 17 -> {
                if (random.nextInt(6) == 0) tell();
                else call("houseOf", anyHouse(), in(0, 5));
            }
            default -> ask();
        }
    }

    private void ask() throws Exception {
        switch (random.nextInt(15)) {
            case 0 -> call("lotOf", anyLot(), in(-1, 11));
            case 1 -> call("led", random.nextBoolean() ? in(0, 20) : anyLot(), in(0, 5));
            case 2 -> call("coins", random.nextBoolean() ? anyHouse() : 100 + anyFarm());
            case 3 -> call("houseOf", anyHouse(), in(-1, 6));
            case 4 -> call("lack", anyHouse(), in(0, Math.min(399, oracle.today)));
            case 5 -> call("fake", in(0, lastTown), anyWeek(), anyGood(), anyDay());
            case 6 -> call("dead", anyHouse(), anyWeek(), anyGood());
            case 7 -> call("shortOf", anyFarm(), anyWeek(), anyGood(), anyDay());
            case 8 -> call("field", anyFarm(), anyGood(), in(0, 60), in(0, 90));
            case 9 -> call("elsewhere", anyFarm(), anyGood(), in(0, 6), early ? in(0, 9) : in(0, 57), in(0, 1));
            case 10 -> call("card", anyHouse(), anyWeek(), anyGood(), anyDay());
            case 11 -> call("quota", anyFarm(), anyWeek(), anyGood(), anyDay());
            case 12 -> call("mouths", anyHouse(), anyDay(), random.nextBoolean() ? -1 : anyDay());
            case 13 -> call("rule", anyWeek(), anyDay(), random.nextBoolean() ? in(0, 4) : in(10, 15));
            default -> call("count", in(-1, 10));
        }
    }

    private void any() throws Exception {
        switch (random.nextInt(16)) {
            case 0 -> call("good", in(0, 5), in(0, 999), in(1, 400));
            case 1 -> house();
            case 2 -> call("farm", in(0, 15), in(0, 5));
            case 3 -> tell();
            case 4 -> maps();
            case 5 -> plans();
            case 6, 7, 8, 9, 10 -> lots();
            case 11 -> wildCall();
            case 12 -> call("pass", in(1, 20));
            default -> ask();
        }
    }

    private void wildCall() throws Exception {
        String name = NAMES[random.nextInt(NAMES.length)];
        Method m = method(HungerBooks.class, name);
        int[] args = new int[m.getParameterCount()];
        for (int k = 0; k < args.length; k++) {
            args[k] = random.nextInt(3) == 0 ? WILD[random.nextInt(WILD.length)] : in(-1, 12);
        }
        // The Oracle weighs all rows of a plan: long ones are for PlanTest.
        if (name.equals("plan") && args[1] > 4 && args[1] <= 8) args[1] = 3;
        call(name, args);
    }

    private void maps() throws Exception {
        int wide = random.nextBoolean() ? 5 : 15;
        switch (random.nextInt(8)) {
            case 0, 1 -> call("exchange", in(0, 11), in(0, 11), random.nextBoolean() ? in(1, 4) : in(0, 100),
                    random.nextBoolean() ? in(0, 5) : in(0, 100));
            case 2, 3 -> call("round", in(0, 12), random.nextBoolean() ? in(0, 1) : in(9, 12));
            case 4 -> call("road", in(0, wide), in(0, wide), random.nextInt(6) == 0 ? 0 : random.nextBoolean() ? in(1, 4) : in(0, 100));
            case 5 -> call("post", in(0, wide), in(0, wide), in(0, 10), in(0, 4));
            default -> call("way", in(0, 399), in(0, wide), in(0, wide), in(0, 1));
        }
    }

    private void plans() throws Exception {
        int weeks = random.nextInt(40) == 0 ? 5 : in(1, 3);
        int town = in(0, 2);
        int stock = switch (random.nextInt(3)) {
            case 0 -> in(0, 99999999);
            case 1 -> in(0, 900000);
            default -> in(0, 90000);
        };
        switch (random.nextInt(12)) {
            case 0 -> house();
            case 1 -> call("die", anyHouse());
            case 2 -> tell();
            case 3 -> call("pass", in(1, 9));
            case 4, 5, 6 -> call("judge", town, weeks, stock, in(0, (1 << (2 * weeks)) - 1), in(0, 1));
            default -> {
                call("plan", town, weeks, stock, 0);
                call("plan", town, weeks, stock, 1);
                for (int w = 0; w <= weeks; w++) call("plan", town, weeks, stock, 10 + w);
            }
        }
    }

    private void texts() throws Exception {
        tell();
        call("fault");
        if (oracle.told.size() > 0) {
            for (int k = 0; k < 3; k++) ask();
        }
        if (random.nextInt(9) == 0) call("pass", in(1, 9));
    }

    private void tell() throws Exception {
        StringBuilder text = new StringBuilder();
        int statements = random.nextInt(12) == 0 ? in(20, 26) : in(0, 6);
        for (int k = 0; k < statements && text.length() < 440; k++) {
            if (statements >= 20) shortStatement(text);
            else statement(text);
        }
        if (random.nextInt(3) == 0) spoil(text);
        tellText(text.toString());
    }

    private void tellText(String text) throws Exception {
        int n = Math.min(text.length(), 500);
        byte[] bytes = new byte[(n + 19) / 20 * 20];
        Arrays.fill(bytes, (byte) ' ');
        for (int k = 0; k < n; k++) bytes[k] = (byte) text.charAt(k);
        for (int k = 0; k + 20 <= bytes.length; k += 20) {
            int[] five = new int[5];
            for (int j = 0; j < 20; j++) five[j / 4] = five[j / 4] << 8 | bytes[k + j] & 255;
            call("feed", five);
        }
        call("orders", random.nextInt(40) == 0 ? n + 20 : n, random.nextInt(3) > 0 ? oracle.today / 7 : in(0, 57));
    }

    private void spoil(StringBuilder text) {
        String signs = ";+-*/(){}<>= \nabcnoti0189@A" + (char) 200;
        for (int k = in(1, 2); k > 0 && text.length() > 0; k--) {
            int at = random.nextInt(text.length());
            switch (random.nextInt(4)) {
                case 0 -> text.deleteCharAt(at);
                case 1 -> text.insert(at, signs.charAt(random.nextInt(signs.length())));
                case 2 -> text.setCharAt(at, signs.charAt(random.nextInt(signs.length())));
                default -> text.setLength(at);
            }
        }
    }

    private void blank(StringBuilder text, boolean must) {
        int n = random.nextInt(12) == 0 ? in(2, 3) : must ? 1 : random.nextInt(5) == 0 ? 1 : 0;
        for (int k = 0; k < n; k++) text.append(random.nextInt(6) == 0 ? '\n' : ' ');
    }

    private void word(StringBuilder text, String word) {
        boolean must = text.length() > 0 && Oracle.letter(text.charAt(text.length() - 1)) && Oracle.letter(word.charAt(0))
                || text.length() > 0 && Oracle.digit(text.charAt(text.length() - 1)) && Oracle.digit(word.charAt(0));
        blank(text, must);
        text.append(word);
    }

    private void shortStatement(StringBuilder text) {
        word(text, random.nextBoolean() ? "ill" : "fine");
        word(text, "" + in(1, 999));
        word(text, ";");
    }

    private void statement(StringBuilder text) {
        if (random.nextInt(4) == 0) {
            word(text, Oracle.SETTING_NAMES[in(0, 3)]);
            word(text, number());
        } else {
            word(text, new String[] {"card", "quota", "price", "card"}[in(0, 3)]);
            word(text, Oracle.GOOD_NAMES[in(0, 5)]);
            sum(text, random.nextInt(9) == 0 ? 6 : 2);
            if (random.nextBoolean()) {
                word(text, "if");
                cond(text, random.nextInt(9) == 0 ? 7 : 2);
            }
        }
        word(text, ";");
    }

    private String number() {
        return switch (random.nextInt(12)) {
            case 0 -> "" + in(0, 999999);
            case 1 -> "00" + in(0, 99);
            case 2 -> random.nextInt(8) == 0 ? "" + in(1000000, 9999999) : "0";
            default -> "" + in(0, 40);
        };
    }

    private void sum(StringBuilder text, int depth) {
        for (int k = 0; k == 0 || random.nextInt(3) == 0; k++) {
            if (k > 0) word(text, random.nextBoolean() ? "+" : "-");
            for (int j = 0; j == 0 || random.nextInt(3) == 0; j++) {
                if (j > 0) word(text, random.nextInt(3) > 0 ? "*" : "/");
                if (depth > 0 && random.nextInt(4) == 0 || depth > 4) {
                    word(text, "(");
                    sum(text, depth - 1);
                    word(text, ")");
                } else {
                    word(text, random.nextBoolean() ? number() : new String[] {"mouths", "kin", "town", "week", "came"}[in(0, 4)]);
                }
            }
        }
    }

    private void cond(StringBuilder text, int depth) {
        for (int k = 0; k == 0 || random.nextInt(4) == 0; k++) {
            if (k > 0) word(text, random.nextBoolean() ? "or" : "and");
            int way = random.nextInt(depth > 4 ? 2 : 6);
            if (depth > 0 && way == 0) {
                word(text, "{");
                cond(text, depth - 1);
                word(text, "}");
            } else {
                if (depth > 0 && way == 1) {
                    word(text, "not");
                    if (depth > 4) {
                        word(text, "{");
                        cond(text, depth - 2);
                        word(text, "}");
                        continue;
                    }
                }
                sum(text, 1);
                word(text, new String[] {"<", ">", "="}[in(0, 2)]);
                sum(text, depth > 4 ? 3 : 1);
            }
        }
    }

    private static Method method(Class<?> type, String name) {
        for (Method m : type.getDeclaredMethods()) {
            if (m.getName().equals(name)) return m;
        }
        throw new IllegalStateException(name);
    }

    private void call(String name, int... given) throws Exception {
        if (made >= CALLS || wrong) return;
        made++;
        Method a = method(HungerBooks.class, name);
        Method b = method(Oracle.class, name);
        Object[] args = new Object[given.length];
        StringBuilder shown = new StringBuilder(name).append('(');
        for (int k = 0; k < given.length; k++) {
            boolean isFlag = a.getParameterTypes()[k] == boolean.class;
            int value = name.equals("feed") || isFlag ? given[k] : wildly(given[k]);
            if (name.equals("plan") && k == 1 && value > 5 && value <= 8) value = 2;
            args[k] = isFlag ? (Object) (value == 1) : (Object) value;
            shown.append(k > 0 ? ", " : "").append(args[k]);
        }
        Object got = a.invoke(books, args);
        Object want = b.invoke(oracle, args);
        history.add(shown.append(") = ").append(got).toString());
        if (!got.equals(want)) {
            wrong = true;
            history.add("due is " + want);
        }
    }
}
