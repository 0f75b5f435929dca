/** Promises 8 to 13: feed, orders, fault, rule, card, quota. */
public final class OrdersTest {
    private static final int NONE = HungerBooks.NONE;

    public static void main(String[] args) {
        feeds();
        answers();
        faults();
        ends();
        openOnes();
        statements();
        force();
        settings();
        prices();
        cards();
        reckoning();
        conditions();
        quotas();
        Due.end("OrdersTest");
    }

    private static void feeds() {
        HungerBooks x = new HungerBooks();
        for (int k = 1; k <= 25; k++) Due.due("feed " + k, x.feed(0, -1, 2, 3, 4), 20 * k);
        Due.due("feed beyond 500", x.feed(0, 0, 0, 0, 0), NONE);
        Due.due("bytes", x.count(9), 500);
        Due.due("orders of 501", x.orders(501, 0), -2);
        Due.due("orders of bytes that are none", x.orders(500, 0), NONE);
        Due.due("fault", x.fault(), 0);
        Due.due("bytes behind orders", x.count(9), 0);
        // Of each number the highest byte first: "fine", " 12;", then bytes that no text has.
        x.feed(0x66696e65, 0x2031323b, 0, 0, 0);
        Due.due("orders of the first eight", x.orders(8, 0), 0);
        Due.due("fine", x.rule(0, 0, 3), 12);
        Due.due("the tape is empty then", x.count(9), 0);
    }

    private static void answers() {
        HungerBooks x = new HungerBooks();
        Due.due("n below 0", x.orders(-1, 0), -2);
        Due.due("n above", x.orders(1, 0), -2);
        Due.due("week -1", x.orders(0, -1), -2);
        Due.due("week 58", x.orders(0, 58), -2);
        Due.feed(x, "ill");
        Due.due("-2 does nothing", x.orders(21, 0), -2);
        Due.due("the tape stays", x.count(9), 20);
        Due.due("a fault", x.orders(20, 0), NONE);
        Due.due("its place", x.fault(), 20);
        Due.due("-2 leaves the fault", x.orders(3, 0), -2);
        Due.due("its place still", x.fault(), 20);
        for (int k = 0; k < 12; k++) Due.due("orders " + k, Due.tell(x, "ill " + k + ";", 57), k);
        Due.due("fault of good ones", x.fault(), NONE);
        Due.feed(x, "ill");
        Due.due("the 13th", x.orders(3, 0), -3);
        Due.due("the tape stays", x.count(9), 20);
        Due.due("-2 ahead of -3", x.orders(21, 0), -2);
        Due.due("orders", x.count(4), 12);
        Due.due("the last ones", x.rule(57, 0, 1), 11);
    }

    private static void faults() {
        String[] texts = {"", "  \n ", "^;", "card^", "card ^", "card bread^", "card bread 1^", "card bread 1;",
            "card bread 1 ;^;", "^cards bread 1;", "^car", "^CARD", "card^@", "card ^breads 1;", "card bread ^x;",
            "card bread 1 ^2;", "card bread 1+^;", "card bread ^+1;", "card bread (1^;", "card bread 1^);",
            "card bread (^);", "card bread ^if 1<2;", "card bread 1 if^;", "card bread 1 if 1^;", "card bread 1 if 1<^;",
            "card bread 1 if 1<2^<3;", "card bread 1 if (1^<2);", "card bread 1 if {1<2};", "card bread 1 if {1<2^;",
            "card bread 1 if 1<2^};", "card bread 1 if {^};", "card bread 1 if not^;", "card bread 1 if not 1<2;",
            "card bread 1 if 1<2 and^;", "card bread 1 if 1<2 or ^or;", "card bread 1 if 1 ^and 2;", "card bread 1 ^or 2;",
            "card bread 1 if 1<2 ^if 1<2;", "need ^0;", "need ^000000;", "need 000001;", "need 999999;", "need ^1000000;",
            "need ^0000001;", "ill 0;", "ill ^0000000;", "need ^bread;", "need ^mouths;", "need 1^+1;", "need 1 ^if 1<2;",
            "ill1;parcel2;fine3;", "card\nbread\n1\n;", "card^\tbread 1;", "card bread ^1234567;", "card bread 123456;",
            "card bread 1;^x", "card bread 1;card^", "need 1^", "need^", "need 1 ^", "price smoke week*came;",
            "^cardbread 1;", "card bread1;", "card bread mouths ^kin;", "card bread 1^==1;",
            "quota oil kin/town-came+week*mouths;", "card ^mouths 1;", "^bread 1;", "need^;", "card bread ^not 1<2;",
            "card bread ^{1};", "card bread 1 if 1 < 2 and not { 1 = 2 or 3 > 4 } ;", "card bread 1 if 1<2 ^) ;", "^1;",
            "parcel 5;fine 7;ill 3^", "card bread ^-1;", "card bread 1 if mouths^;", "card bread (1^<2);", "^\u00e9",
            "card ^;", "card bread ^;", "card bread 1*^;", "card bread 1/^;", "card bread 1-^;", "card bread 1 if 1<2 or^;",
            "card bread 1 if 1<2 or 1^;", "card bread 1 if not 1^;", "card bread (1+2^;", "card bread 1 if {1<2 or 1^};",
            "^cardz bread 1;", "^zcard bread 1;", "card ^breada", "^xard bread 1;", "card ^xgg 1;", "card bread ^xouths;", "card bread 1 if ^xot 1<2;", "card bread 1 ^xf 1<2;",
            "card bread 1 if 1=^=1;", "card bread 1 if {1<2} ^{1<2};", "card bread 1 if not (^not 1<2);"};
        Due.faults(texts);
        HungerBooks x = new HungerBooks();
        for (int sign = 0; sign < 256; sign++) {
            boolean blank = sign == 32 || sign == 10;
            Due.due("fault of byte " + sign, Due.faultOf("" + (char) sign), blank ? -1 : 0);
        }
        Due.due("fault() of a new object", x.fault(), NONE);
    }

    /** A text ends at its n-th byte, whatever stands behind it on the tape. */
    private static void ends() {
        Object[][] rows = {{"illness", 3, 3}, {"illness", 4, 0}, {"fine 1234567;", 11, 11}, {"fine 1234567;", 12, 5},
            {"fine 12;;", 8, -1}, {"fine 12;;", 9, 8}, {"fine 12;", 7, 7}, {"fine 12; ?", 9, -1}, {"fine 12; ?", 10, 9}};
        for (Object[] r : rows) {
            HungerBooks x = new HungerBooks();
            Due.feed(x, (String) r[0]);
            x.orders((Integer) r[1], 0);
            Due.due("fault of the first " + r[1] + " of '" + r[0] + "'", x.fault(), (Integer) r[2]);
        }
        HungerBooks cut = new HungerBooks();
        Due.feed(cut, "fine 12;fine 34;");
        Due.due("the first of two statements", cut.orders(8, 0), 0);
        Due.due("it alone counts", cut.rule(0, 0, 3), 12);
        // Texts of 500 bytes that end within a word, a number, blanks, signs, and one that is right.
        String full = "card egg 1" + "+1".repeat(245);
        Due.due("500 bytes, a number last", Due.faultOf(full), 500);
        Due.due("500 bytes, a word last", Due.faultOf(full.substring(0, 499) + "k"), 499);
        Due.due("500 bytes, a sign last", Due.faultOf(full.substring(0, 499) + ";"), 499);
        Due.due("500 bytes of blanks", Due.faultOf(" ".repeat(500)), -1);
        Due.due("500 signs", Due.faultOf("(".repeat(500)), 0);
        HungerBooks x = new HungerBooks();
        x.house(0, 1, 0, NONE, 0);
        Due.due("500 bytes that are orders", Due.tell(x, "card egg 99" + "-1".repeat(94) + "+1".repeat(50) + "*1".repeat(100) + ";", 0), 0);
        Due.due("their card", x.card(0, 0, 1, 0), 55);
    }

    private static void openOnes() {
        String nine = "(((((((((";
        Due.due("nine open", Due.faultOf("card egg " + nine + "1)))))))));"), -1);
        Due.due("ten open", Due.faultOf("card egg " + nine + "(1))))))))));"), 18);
        Due.due("nine and nine beside", Due.faultOf("card egg " + nine + "1)))))))))*" + nine + "1)))))))));"), -1);
        Due.due("nine braces", Due.faultOf("card egg 1 if {{{{{{{{{1<2}}}}}}}}};"), -1);
        Due.due("ten braces", Due.faultOf("card egg 1 if {{{{{{{{{{1<2}}}}}}}}}};"), 23);
        Due.due("nine nots", Due.faultOf("card egg 1 if not not not not not not not not not 1<2;"), -1);
        Due.due("ten nots", Due.faultOf("card egg 1 if not not not not not not not not not not 1<2;"), 50);
        Due.due("nots close", Due.faultOf("card egg 1 if not not not not not 1<2 and not not not not not 1<2;"), -1);
        Due.due("three of each", Due.faultOf("card egg 1 if not{not{not{(((1)))<2}}};"), -1);
        Due.due("and one more", Due.faultOf("card egg 1 if not{not{not{((((1))))<2}}};"), 29);
        Due.due("behind them too", Due.faultOf("card egg 1 if not{not{not{1<((((1))))}}};"), 31);
        Due.due("an open rule's brackets are not the condition's", Due.faultOf("card egg " + nine
            + "1))))))))) if {{{{{{{{{1<2}}}}}}}}};"), -1);
    }

    private static void statements() {
        StringBuilder text = new StringBuilder();
        for (int k = 0; k < 24; k++) text.append("ill ").append(k).append(';');
        int length = text.length();
        Due.due("24 statements", Due.faultOf(text.toString()), -1);
        Due.due("24 and blanks", Due.faultOf(text + " \n "), -1);
        Due.due("the 25th", Due.faultOf(text + "  ill 1;"), length + 2);
        Due.due("the 25th, not whole", Due.faultOf(text + " ill"), length + 1);
        Due.due("the 25th, none at all", Due.faultOf(text + "\n?"), length + 1);
        HungerBooks x = new HungerBooks();
        Due.tell(x, text.toString(), 0);
        Due.due("the 24th counts", x.rule(0, 0, 1), 23);
    }

    private static void force() {
        HungerBooks x = new HungerBooks();
        Due.tell(x, "fine 1;", 3);
        Due.tell(x, "fine 2;", 1);
        x.pass(10);
        Due.tell(x, "fine 3;", 3);
        Due.tell(x, "", 5);
        x.pass(10);
        Due.tell(x, "fine 5;", 0);
        int[][] rows = {{0, 9, NONE}, {0, 20, 4}, {0, 19, NONE}, {1, 0, 1}, {2, 399, 1}, {3, 9, 0}, {3, 10, 2},
            {4, 9, 0}, {4, 399, 2}, {5, 9, 0}, {5, 10, 3}, {57, 399, 3}, {57, 0, 0}, {-1, 0, NONE}, {58, 0, NONE},
            {57, -1, NONE}, {57, 400, NONE}};
        for (int[] r : rows) Due.due("rule(" + r[0] + ", " + r[1] + ", 4)", x.rule(r[0], r[1], 4), r[2]);
        Due.due("fine by the ones in force alone", x.rule(5, 10, 3), 50);
        Due.due("fine", x.rule(4, 10, 3), 3);
        Due.due("fine as known ahead", x.rule(4, 9, 3), 1);
    }

    private static void settings() {
        HungerBooks x = new HungerBooks();
        int[] first = {1000, 300, 5, 50};
        for (int k = 0; k < 4; k++) Due.due("rule " + k, x.rule(0, 0, k), first[k]);
        Due.tell(x, "need 7;need 8;parcel 9;parcel 0;", 0);
        int[] then = {8, 300, 0, 50};
        for (int k = 0; k < 4; k++) Due.due("rule " + k + " told", x.rule(0, 0, k), then[k]);
        Due.due("rule 5", x.rule(0, 0, 5), NONE);
        Due.due("rule 9", x.rule(0, 0, 9), NONE);
        Due.due("rule 16", x.rule(0, 0, 16), NONE);
        Due.due("rule -1", x.rule(0, 0, -1), NONE);
        Due.due("week 58", x.rule(58, 0, 0), NONE);
        Due.due("day -1", x.rule(0, -1, 0), NONE);
        Due.due("day 400", x.rule(0, 400, 10), NONE);
    }

    private static void prices() {
        HungerBooks x = new HungerBooks();
        for (int g = 0; g < 6; g++) Due.due("price at first", x.rule(0, 0, 10 + g), 10);
        Due.tell(x, "price bread 7-week;price egg 99999;price meat 3 if week>4;price meat 4 if week>2;"
            + "price oil mouths+kin+town+came+week;price smoke 0;", 0);
        Due.due("price", x.rule(0, 0, 10), 7);
        Due.due("price held to 0", x.rule(57, 0, 10), 0);
        Due.due("price held to 9999", x.rule(0, 0, 11), 9999);
        Due.due("price, none holds", x.rule(2, 0, 12), 10);
        Due.due("price, the second holds", x.rule(4, 0, 12), 4);
        Due.due("price, the first of two that hold", x.rule(5, 0, 12), 3);
        Due.due("price, all but week 0", x.rule(9, 0, 13), 9);
        Due.due("price of no rule", x.rule(9, 0, 14), 10);
        Due.due("price 0", x.rule(9, 0, 15), 0);
    }

    private static void cards() {
        HungerBooks x = new HungerBooks();
        x.farm(0, 0);
        x.house(2, 5, 0, 0, 0);
        x.house(3, 5, 0, NONE, 0);
        Due.due("card without orders", x.card(0, 0, 0, 0), 0);
        Due.tell(x, "card bread mouths*10+kin;card egg town*10+week;card oil 100;card roots 0-1;card smoke came;"
            + "card meat 1 if week=1;card meat 2;card meat 3;", 0);
        Due.due("card by mouths and kin", x.card(0, 0, 0, 0), 51);
        Due.due("card without kin", x.card(1, 0, 0, 0), 50);
        Due.due("card by town and week", x.card(1, 57, 1, 0), 87);
        Due.due("held to 99", x.card(0, 0, 3, 0), 99);
        Due.due("held to 0", x.card(0, 0, 4, 0), 0);
        Due.due("came", x.card(0, 0, 5, 0), 0);
        Due.due("the first that holds", x.card(0, 1, 2, 0), 1);
        Due.due("else the next", x.card(0, 2, 2, 0), 2);
        x.pass(8);
        x.die(0);
        x.pass(1);
        x.hear(0);
        // Died on day 8, heard of on day 9: week 1 begins on day 7, week 2 on day 14.
        int[][] rows = {{1, 399, 51}, {2, 8, 51}, {2, 9, 41}, {57, 399, 41}, {0, 399, 51}};
        for (int[] r : rows) Due.due("card in week " + r[0] + " as known by " + r[1], x.card(0, r[0], 0, r[1]), r[2]);
        Due.due("house -1", x.card(-1, 0, 0, 0), NONE);
        Due.due("house 2", x.card(2, 0, 0, 0), NONE);
        Due.due("week 58", x.card(0, 58, 0, 0), NONE);
        Due.due("week -1", x.card(0, -1, 0, 0), NONE);
        Due.due("good 6", x.card(0, 0, 6, 0), NONE);
        Due.due("good -1", x.card(0, 0, -1, 0), NONE);
        Due.due("known -1", x.card(0, 0, 0, -1), NONE);
        Due.due("known 400", x.card(0, 0, 0, 400), NONE);
        Due.tell(x, "", 2);
        Due.due("orders with no card", x.card(0, 2, 0, 9), 0);
        Due.due("as known ahead", x.card(0, 2, 0, 8), 51);
    }

    private static long told(String ex) {
        HungerBooks x = new HungerBooks();
        x.farm(0, 3);
        Due.tell(x, "quota bread " + ex + ";", 0);
        return x.quota(0, 0, 0, 0);
    }

    private static void reckoning() {
        Object[][] rows = {{"2+3*4", 14}, {"(2+3)*4", 20}, {"20-3-4", 13}, {"20-(3-4)", 21}, {"100/7/2", 7}, {"100/(7/2)", 33},
            {"7*3/2", 10}, {"7/2*3", 9}, {"5/0", 0}, {"9+5/0", 9}, {"0-7/2+9", 6}, {"(0-7)/2+9", 6}, {"7/(0-2)+9", 6},
            {"999999*999999/100000", 10000}, {"(0-999999)*999999/100000+10001", 1},
            {"999999*999999-999999*999-900000", 100999}, {"(0-999999*999999-5)/10000+100001", 1}, {"0", 0}, {"000012", 12},
            {"999999+1", 999999}, {"999999*999999/1000+1-1", 999999}, {"999999*999999+5-999999*999999", 0},
            {"999999*999999-5+5-999999*999999+3", 3}, {"town*1+kin*10+mouths*100+week*1000", 3}};
        for (Object[] r : rows) Due.due("value of " + r[0], told((String) r[0]), ((Number) r[1]).longValue());
    }

    private static void conditions() {
        Object[][] rows = {{"1<2", 1}, {"2<2", 0}, {"2>2", 0}, {"3>2", 1}, {"2=2", 1}, {"2=3", 0}, {"not 1<2", 0}, {"not not 1<2", 1},
            {"1<2 or 1<2 and 1>2", 1}, {"{1<2 or 1<2} and 1>2", 0}, {"1>2 and 1<2 or 1<2", 1}, {"1>2 and {1<2 or 1<2}", 0},
            {"not 1>2 and 1>2", 0}, {"not {1>2 and 1>2}", 1}, {"not 1<2 or 1<2", 1}, {"1>2 or 1>2 or 1=1", 1},
            {"1=1 and 2=2 and 3=4", 0}, {"1+1=4-2", 1},
            {"not 3>2", 0}, {"not 2=2", 0}, {"not 2<1", 1}, {"not {1<2 and 1<2}", 0}, {"not {1<2 or 1>2}", 0}, {"1>2 or 1>2", 0},
            {"1<2 and 1<2", 1}, {"1<2 and 1>2", 0}, {"not {1>2 or 1>2}", 1}, {"0-1<0", 1}, {"0-5>0-6", 1}};
        for (Object[] r : rows) Due.due("does " + r[0], told("1 if " + r[0]), ((Number) r[1]).longValue());
    }

    private static void quotas() {
        HungerBooks x = new HungerBooks();
        x.farm(0, 4);
        x.farm(0, 0);
        x.house(0, 1, 0, NONE, 0);
        Due.due("quota without orders", x.quota(0, 0, 0, 0), 0);
        Due.tell(x, "quota bread came;quota egg 999999*9;quota oil 0-1;quota meat town*100+week+mouths+kin;quota roots 5 if came>9;", 0);
        x.crop(0, 0, 30);
        x.crop(0, 0, 4);
        x.crop(1, 0, 100);
        x.crop(0, 1, 100);
        x.pass(6);
        x.deliver(x.crop(0, 0, 5), 5);
        x.pass(1);
        int other = x.deal(x.crop(0, 0, 1), 1, 101, 0);
        Due.due("a lot dealt to a farm", x.lotOf(other, 2), 101);
        Due.due("came in week 0", x.quota(0, 0, 0, 0), 39);
        Due.due("came in week 1", x.quota(0, 1, 0, 0), 1);
        Due.due("what is dealt did not come as a crop", x.quota(1, 1, 0, 0), 0);
        Due.due("came there", x.quota(1, 0, 0, 0), 100);
        Due.due("held to 999999", x.quota(0, 0, 1, 0), 999999);
        Due.due("held to 0", x.quota(0, 0, 3, 0), 0);
        Due.due("town and week, no mouths, no kin", x.quota(0, 57, 2, 0), 457);
        Due.due("a condition that fails", x.quota(0, 0, 4, 0), 0);
        x.crop(0, 4, 10);
        Due.due("a condition that holds", x.quota(0, 1, 4, 0), 5);
        Due.due("farm 2", x.quota(2, 0, 0, 0), NONE);
        Due.due("farm -1", x.quota(-1, 0, 0, 0), NONE);
        Due.due("week 58", x.quota(0, 58, 0, 0), NONE);
        Due.due("good 6", x.quota(0, 0, 6, 0), NONE);
        Due.due("known 400", x.quota(0, 0, 0, 400), NONE);
        Due.due("known -1", x.quota(0, 0, 0, -1), NONE);
    }
}
