/** The document's sentences one by one: ==== 2 and promises 8 to 13. */
public final class BoundsOfOrdersTest {
    private static final int NONE = HungerBooks.NONE;
    private static final int MIN = Integer.MIN_VALUE;
    private static final int MAX = Integer.MAX_VALUE;
    private static final String[] GOODS = {"bread", "egg", "meat", "oil", "roots", "smoke"};

    public static void main(String[] args) {
        rules();
        conditions();
        tokens();
        limits();
        faults();
        results();
        force();
        grades();
        feed();
        orders();
        fault();
        rule();
        card();
        quota();
        Sentences.end("BoundsOfOrdersTest");
    }

    /** What an EX tells, by a QUOTA of a FARM of TOWN 3 to which 7 breads came, in WEEK 2. */
    private static int told(String ex) {
        HungerBooks x = new HungerBooks();
        x.farm(0, 3);
        Due.tell(x, "quota bread " + ex + ";", 0);
        x.pass(14);
        x.crop(0, 0, 7);
        return x.quota(0, 2, 0, 14);
    }

    private static void tells(String ex, int want) {
        Due.due("value of " + ex, told(ex), want);
    }

    private static void tells(String cond, boolean want) {
        Due.due("does " + cond, told("1 if " + cond), want ? 1 : 0);
    }

    private static void rules() {
        Sentences.terms(2);
        Sentences.holds("ORDERS are a text: {RULE \";\"}.", () ->
            Due.faults("", " ", "\n", "ill 1;", "ill 1;ill 2;", "ill 1^", "ill 1;ill 2^", "^;", "ill 1;^;", "ill 1 ^ill 2;"));
        Sentences.holds("RULE: (\"card\" | \"quota\" | \"price\") GOOD EX [\"if\" COND]", () ->
            Due.faults("card egg 1;", "quota egg 1;", "price egg 1;", "card egg 1 if 1<2;", "quota egg 1 if 1<2;",
                "price egg 1 if 1<2;", "card^;", "card^", "card ^1;", "card egg^;", "card egg^", "card egg ^if 1<2;",
                "card egg 1 if^;", "card egg 1 if^", "card egg 1 ^egg;", "card egg 1 if 1<2 ^if 1<2;", "^egg 1;"));
        Sentences.holds("| (\"need\" | \"ill\" | \"parcel\" | \"fine\") NUMBER.", () ->
            Due.faults("need 1;", "ill 1;", "parcel 1;", "fine 1;", "need^;", "ill^", "parcel ^egg;", "fine ^mouths;",
                "need ^(1);", "ill 1^+1;", "parcel 1 ^if 1<2;", "fine 1 ^2;", "need ^-1;"));
        Sentences.holds("GOOD: bread, egg, meat, oil, roots, smoke.", () -> {
            for (String good : GOODS) {
                Due.faults("card " + good + " 1;", "card ^" + good + "s 1;", "card ^" + good.substring(1) + " 1;",
                    "card ^" + good.substring(0, good.length() - 1) + " 1;", "card egg ^" + good + ";");
            }
            Due.faults("card ^mouths 1;", "card ^card 1;", "card ^need 1;", "card ^if 1;");
        });
        Sentences.holds("EX: PROD {(\"+\" | \"-\") PROD}.", () -> {
            Due.faults("card egg 1+2-3+4;", "card egg ^+1;", "card egg ^-1;", "card egg 1+^;", "card egg 1-^", "card egg 1+^+2;",
                "card egg 1-^-2;");
            tells("9-4-3", 2);
            tells("9-4+3", 8);
            tells("9-(4-3)", 8);
        });
        Sentences.holds("PROD: ATOM {(\"*\" | \"/\") ATOM}.", () -> {
            Due.faults("card egg 1*2/3*4;", "card egg ^*1;", "card egg ^/1;", "card egg 1*^;", "card egg 1/^", "card egg 1*^/2;",
                "card egg 1*^-2;");
            tells("2+3*4", 14);
            tells("20-6/2", 17);
            tells("40/4/2", 5);
            tells("7/2*2", 6);
            tells("7*2/4", 3);
        });
        Sentences.holds("ATOM: NUMBER | NAME | \"(\" EX \")\".", () -> {
            Due.faults("card egg 1;", "card egg kin;", "card egg (1);", "card egg ((1)+(2));", "card egg (^);", "card egg (1^;",
                "card egg (1^", "card egg 1^);", "card egg (1 ^2);", "card egg (1^};", "card egg ^{1};", "card egg 1^(2);",
                "card egg (1^<2);");
            tells("(2+3)*4", 20);
            tells("2*(3+(4-1))", 12);
        });
    }

    private static void conditions() {
        Sentences.holds("COND: ALL {\"or\" ALL}.", () -> {
            Due.faults("card egg 1 if 1<2 or 1<2 or 1<2;", "card egg 1 if ^or 1<2;", "card egg 1 if 1<2 or^;",
                "card egg 1 if 1<2 or^", "card egg 1 if 1<2 or ^or 1<2;", "card egg 1 ^or 1<2;", "card egg 1 if 1 ^or 2;");
            tells("1>2 or 1>2", false);
            tells("1>2 or 1<2", true);
            tells("1<2 or 1>2", true);
            tells("1<2 or 1<2", true);
            tells("1>2 or 1>2 or 1<2", true);
        });
        Sentences.holds("ALL: ONE {\"and\" ONE}.", () -> {
            Due.faults("card egg 1 if 1<2 and 1<2 and 1<2;", "card egg 1 if ^and 1<2;", "card egg 1 if 1<2 and^;",
                "card egg 1 if 1<2 and^", "card egg 1 if 1<2 and ^and 1<2;", "card egg 1 if 1<2 or ^and 1<2;");
            tells("1>2 and 1>2", false);
            tells("1>2 and 1<2", false);
            tells("1<2 and 1>2", false);
            tells("1<2 and 1<2", true);
            tells("1<2 or 1<2 and 1>2", true);
            tells("1>2 and 1<2 or 1<2", true);
        });
        Sentences.holds("ONE: \"not\" ONE | \"{\" COND \"}\" | EX (\"<\" | \">\" | \"=\") EX.", () -> {
            Due.faults("card egg 1 if not 1<2;", "card egg 1 if not not 1<2;", "card egg 1 if {1<2};", "card egg 1 if not {1<2};",
                "card egg 1 if {not 1<2};", "card egg 1 if not^;", "card egg 1 if not^", "card egg 1 if {^};", "card egg 1 if {1<2^;",
                "card egg 1 if {1<2^", "card egg 1 if {1<2^);", "card egg 1 if 1<2^};", "card egg 1 if 1^;", "card egg 1 if 1^",
                "card egg 1 if 1<^;", "card egg 1 if 1<^", "card egg 1 if 1<2^<3;", "card egg 1 if 1<^=2;", "card egg 1 if {1^};",
                "card egg 1 if {1<2}^<3;", "card egg 1 if (1^<2);", "card egg 1 if 1 ^not 2;", "card egg 1 if 1<^{2};",
                "card egg 1 if 1<^not 2;", "card egg 1 if {1<2}^+1;");
            tells("1<2", true);
            tells("2<2", false);
            tells("3<2", false);
            tells("1>2", false);
            tells("2>2", false);
            tells("3>2", true);
            tells("1=2", false);
            tells("2=2", true);
            tells("3=2", false);
            tells("not 1<2", false);
            tells("not 2<2", true);
            tells("not not 1<2", true);
            tells("not 3>2", false);
            tells("not 2=2", false);
            tells("not {1<2 and 1<2}", false);
            tells("not {1<2 or 1<2}", false);
            tells("not {1>2 or 1>2}", true);
            tells("not 1>2 and 1>2", false);
            tells("not {1>2 and 1>2}", true);
            tells("{1<2 or 1<2} and 1>2", false);
            tells("1+1=4/2", true);
            tells("0-1<0", true);
            tells("999999*999999=999999*1001", true);
        });
        Sentences.holds("NAME: mouths, kin, town, week, came.", () -> {
            Due.faults("card egg mouths;", "card egg kin;", "card egg town;", "card egg week;", "card egg came;", "card egg ^mouth;",
                "card egg ^kins;", "card egg ^towns;", "card egg ^weeks;", "card egg ^day;", "card egg ^bread;", "card egg ^need;");
            tells("town*100+week*10+came", 327);
            tells("mouths+kin", 0);
        });
    }

    private static void tokens() {
        Sentences.holds("NUMBER: one to six digits", () -> {
            Due.faults("ill 0;", "ill 9;", "ill 000000;", "ill 999999;", "ill ^0000000;", "ill ^1000000;", "ill ^99999999999;",
                "card egg 999999;", "card egg ^1000000;", "card egg 1+^0000001;", "card egg 1 if 1<^1234567;");
            tells("999999", 999999);
            tells("000012", 12);
        });
        Sentences.holds("of \"need\" 1 at least.", () -> {
            Due.faults("need ^0;", "need ^000000;", "need 1;", "need 000001;", "need 999999;", "need ^1000000;", "need ^0", "parcel 0;",
                "fine 0;", "ill 0;", "card egg 0;", "need 1;need ^0;");
            HungerBooks x = new HungerBooks();
            Due.tell(x, "need 1;", 0);
            Due.due("the least NEED", x.rule(0, 0, 0), 1);
        });
        Sentences.holds("Tokens as long as they go: words of letters a to z, digits, signs", () -> {
            Due.faults("ill1;fine2;", "card egg 1if 1<2and 3<4;", "^cardegg 1;", "card egg mouths^1;", "card egg 1^kin;",
                "card ^eggkin;", "card egg 1 ^ifnot", "^illl 1;", "^il 1;", "^car", "card egg 1 if not1<2;", "card egg 1 ^ifnot 1<2;",
                "card egg 12 ^34;", "card egg 1+(2)*(3);", "^Card egg 1;", "^ca", "card egg^A;", "card egg 1^.5;",
                "^xard egg 1;", "^carx egg 1;", "^cxrd egg 1;", "^parcels 1;", "^parce 1;", "card egg ^mouthss;", "^qquota egg 1;");
            for (int sign = 0; sign < 256; sign++) {
                boolean letter = sign >= 'a' && sign <= 'z';
                boolean blank = sign == 32 || sign == 10;
                Due.due("byte " + sign + " behind a word", Due.faultOf("card" + (char) sign + "egg 1;"), blank ? -1 : letter ? 0 : 4);
            }
        });
        Sentences.holds("between them blanks (bytes 32 and 10).", () -> {
            Due.faults(" \n card \n egg\n1 ;\n\n", "card\negg\n1\nif\n1\n<\n2\n;");
            for (int sign = 0; sign < 256; sign++) {
                boolean blank = sign == 32 || sign == 10;
                boolean digit = sign >= '0' && sign <= '9';
                Due.due("byte " + sign + " ahead of a rule", Due.faultOf((char) sign + "ill 1;"), blank ? -1 : 0);
                int place = blank || digit ? -1 : sign == ';' ? 6 : 5;
                Due.due("byte " + sign + " behind a number", Due.faultOf("ill 1" + (char) sign + ";"), place);
            }
        });
    }

    private static void limits() {
        Sentences.holds("\"(\", \"{\", \"not\": at most 9 open in one another.", () -> {
            String nine = "(((((((((";
            String closed = ")))))))))";
            Due.faults("card egg " + nine + "1" + closed + ";", "card egg " + nine + "^(1)" + closed + ";",
                "card egg " + nine + "1" + closed + "+" + nine + "1" + closed + ";", "card egg (" + nine.substring(1) + "1)+(1)"
                + closed.substring(1) + ";", "card egg (" + nine.substring(1) + "1)+(^(1))" + closed.substring(1) + ";",
                "card egg 1 if {{{{{{{{{1<2}}}}}}}}};", "card egg 1 if {{{{{{{{{^{1<2}}}}}}}}}};",
                "card egg 1 if {{{{{{{{{1<2}}}}}}}}} and {{{{{{{{{1<2}}}}}}}}};", "card egg 1 if {{{{{{{{{^not 1<2}}}}}}}}};",
                "card egg 1 if {{{{{{{{{^(1)<2}}}}}}}}};", "card egg 1 if {{{{{{{{{1<^(2)}}}}}}}}};",
                "card egg 1 if not not not not not not not not not 1<2;", "card egg 1 if not not not not not not not not not ^not 1<2;",
                "card egg 1 if not not not not not not not not not ^{1<2};", "card egg 1 if not not not not not not not not not ^(1)<2;",
                "card egg 1 if not not not not not not not not not 1<2 and not not not not not not not not not 1<2;",
                "card egg 1 if not{(((((((1)))))))<2};", "card egg 1 if not{(((((((^(1))))))))<2};",
                "card egg 1 if not{not{not{not{(1)<(2)}}}};", "card egg 1 if not{not{not{not{(^(1))<2}}}};",
                "card egg " + nine + "1" + closed + " if " + nine + "1" + closed + "<" + nine + "1" + closed + ";");
        });
        Sentences.holds("At most 24 statements.", () -> {
            String all = "ill 1;".repeat(23) + "fine 77;";
            Due.faults(all, all + " \n", all + "^ill 1;");
            HungerBooks x = new HungerBooks();
            Due.tell(x, all, 0);
            Due.due("the 24th counts", x.rule(0, 0, 3), 77);
            HungerBooks y = new HungerBooks();
            Due.due("25 statements", Due.tell(y, all + "fine 78;", 0), NONE);
            Due.due("none of them counts", y.rule(0, 0, 3), 50);
        });
    }

    private static void faults() {
        Sentences.holds("FAULT: the place of the first byte of the first token (or byte that begins none) with which no such text goes on", () ->
            Due.faults("^x", "^?", "^9", "^bread", "  ^bread", "card  ^mouths", "card egg 1 \n ^card", "card egg 1 if 1 < 2 ^week",
                "card egg 1^\t;", "card egg 1^!", "card egg ^\u00ff1;", "ill 1; ^\u0000", "ill 1;^A", "ill 1; ill ^ill", "ill 1;^-",
                "^cards ?", "card^? egg 1;", "^" + "(".repeat(500), "^" + "a".repeat(500), "^" + "1".repeat(500),
                "card egg 1" + "+1".repeat(244) + "+^k"));
        Sentences.holds("(a number beyond its bounds, the tenth open, too)", () ->
            Due.faults("fine ^1234567;", "fine   ^1234567", "need  ^0;", "card egg  ((((((((( ^( 1;", "card egg 1 if {{{{{{{{{ ^{",
                "card egg 1 if not not not not not not not not not  ^not"));
        Sentences.holds("the text's length, if more must come", () -> {
            Due.faults("card^", "card ^", "card egg^", "card egg \n^", "card egg 1^", "card egg 1 ^", "card egg (^", "card egg 1 if^",
                "card egg 1 if {1<2^", "card egg 1 if not ^", "card egg 1 if 1<2 and^", "card egg 1 if 1=^", "need^", "need 1^",
                "ill 1;fine^", "ill 1;fine 1  ^", "card egg " + "1+".repeat(245) + "^", "card egg " + "1+".repeat(245) + "1^");
            HungerBooks x = new HungerBooks();
            Due.feed(x, "fine 123;");
            x.orders(7, 0);
            Due.due("the text ends within a number", x.fault(), 7);
            Due.feed(x, "illness");
            x.orders(3, 0);
            Due.due("the text ends within a word", x.fault(), 3);
        });
        Sentences.holds("the 25th statement: where it begins.", () -> {
            String all = "ill 1;".repeat(24);
            Due.faults(all + "^ill 1;", all + "  ^ill 1;", all + "\n^card egg", all + " ^ill", all + "^?", all + " ^;", all + "^x", all + " ");
        });
    }

    private static void results() {
        Sentences.holds("Each result is held to from -10^9 to 10^9", () -> {
            // 999,999 times 1,000 is just below 10^9, and 1,001 times above it.
            tells("999999*1000/1000", 999999);
            tells("(999999*1000+1000)/1000-1", 999999);
            tells("(999999*1000+1001)/1000-1", 999999);
            tells("999999*1000+1001-999999*1000", 1000);
            tells("999999*1000+999-999999*1000", 999);
            tells("999999*1001-999999*1000", 1000);
            tells("999999*999999*999999-999999*1000", 1000);
            tells("999999*1000-(0-999999)-999999*1000", 1000);
            tells("(0-999999)*1000+999999*1000", 0);
            tells("(0-999999)*1000-1000+999999*1000+1000", 0);
            tells("(0-999999)*1000-1001+999999*1000+1000", 0);
            tells("(0-999999)*1001+999999*1000+1001", 1);
            tells("(0-999999)*999999+999999*1000+1002", 2);
            tells("999999*(0-999999)*(0-999999)/1000-999999", 1);
        });
        Sentences.holds("/ towards 0", () -> {
            tells("7/2", 3);
            tells("(0-7)/2+9", 6);
            tells("7/(0-2)+9", 6);
            tells("(0-7)/(0-2)", 3);
            tells("(0-1)/2", 0);
            tells("1/2", 0);
            tells("6/2", 3);
        });
        Sentences.holds("0 by 0.", () -> {
            tells("5/0", 0);
            tells("0/0", 0);
            tells("9+5/0", 9);
            tells("9+(0-5)/0", 9);
            tells("5/(3-3)*2+1", 1);
            tells("5/mouths+4", 4);
            tells("5/0=0", true);
        });
    }

    private static void force() {
        Sentences.holds("Told (up to 12) for WEEKS from one on (0 to 57).", () -> {
            HungerBooks x = new HungerBooks();
            Due.due("week -1", x.orders(0, -1), -2);
            Due.due("week 58", x.orders(0, 58), -2);
            for (int k = 0; k < 12; k++) Due.due("orders " + k, x.orders(0, k < 6 ? 0 : 57), k);
            Due.due("the 13th", x.orders(0, 0), -3);
            Due.due("in the last week", x.rule(57, 0, 4), 11);
            Due.due("in the week ahead of it", x.rule(56, 0, 4), 5);
        });
        Sentences.holds("In force in a WEEK as KNOWN by a DAY: of those told by then for WEEKS up to it those from the latest WEEK", () -> {
            HungerBooks x = new HungerBooks();
            x.orders(0, 5);
            x.orders(0, 3);
            x.pass(4);
            x.orders(0, 4);
            int[][] rows = {{2, 399, NONE}, {3, 0, 1}, {3, 399, 1}, {4, 3, 1}, {4, 4, 2}, {5, 0, 0}, {5, 4, 0}, {57, 399, 0}};
            for (int[] r : rows) Due.due("in week " + r[0] + " known by " + r[1], x.rule(r[0], r[1], 4), r[2]);
        });
        Sentences.holds("of one WEEK those told last.", () -> {
            HungerBooks x = new HungerBooks();
            x.orders(0, 3);
            x.orders(0, 3);
            x.pass(1);
            x.orders(0, 3);
            Due.due("of one day", x.rule(3, 0, 4), 1);
            Due.due("of all", x.rule(3, 1, 4), 2);
        });
        Sentences.holds("Of \"need\" .. \"fine\" the last", () -> {
            HungerBooks x = new HungerBooks();
            Due.tell(x, "need 2;need 1;ill 8;ill 7;parcel 6;parcel 5;fine 4;fine 3;need 9;", 0);
            int[] want = {9, 7, 5, 3};
            for (int k = 0; k < 4; k++) Due.due("rule " + k, x.rule(0, 0, k), want[k]);
        });
        Sentences.holds("else: NEED 1,000, ILL 300, PARCEL 5, FINE 50.", () -> {
            HungerBooks x = new HungerBooks();
            int[] want = {1000, 300, 5, 50};
            for (int k = 0; k < 4; k++) Due.due("rule " + k + " without orders", x.rule(0, 0, k), want[k]);
            Due.tell(x, "need 1;ill 1;parcel 1;fine 1;", 0);
            Due.tell(x, "price egg 1;", 1);
            for (int k = 0; k < 4; k++) Due.due("rule " + k + " by others that do not tell it", x.rule(1, 0, k), want[k]);
            for (int k = 0; k < 4; k++) Due.due("rule " + k + " by those that do", x.rule(0, 0, k), 1);
        });
    }

    private static int cardBy(String rules, int week) {
        HungerBooks x = new HungerBooks();
        x.farm(0, 0);
        x.house(4, 6, 0, 0, 0);
        Due.tell(x, rules, 0);
        return x.card(0, week, 0, 0);
    }

    private static void grades() {
        Sentences.holds("CARD of a HOUSE for a WEEK and a GOOD as KNOWN by a DAY: what the first \"card\" of that GOOD tells whose COND holds", () -> {
            Due.due("the first of two", cardBy("card bread 1;card bread 2;", 0), 1);
            Due.due("another good's", cardBy("card egg 1;card bread 2;", 0), 2);
            Due.due("one that does not hold", cardBy("card bread 1 if 1>2;card bread 2;", 0), 2);
            Due.due("the first that holds", cardBy("card bread 1 if 1>2;card bread 2 if 1<2;card bread 3;", 0), 2);
            Due.due("no quota, no price", cardBy("quota bread 1;price bread 2;card bread 3;", 0), 3);
        });
        Sentences.holds("(one without holds; none: 0), held to 0 to 99", () -> {
            Due.due("one without", cardBy("card bread 7;", 0), 7);
            Due.due("none that holds", cardBy("card bread 7 if 1>2;", 0), 0);
            Due.due("none at all", cardBy("", 0), 0);
            Due.due("no orders", cardBy("x", 0), 0);
            int[][] rows = {{0, 0}, {1, 1}, {98, 98}, {99, 99}, {100, 99}, {999999, 99}};
            for (int[] r : rows) Due.due("held " + r[0], cardBy("card bread " + r[0] + ";", 0), r[1]);
            Due.due("held to 0", cardBy("card bread 0-1;", 0), 0);
            Due.due("held to 0 from far below", cardBy("card bread 0-999999*999999;", 0), 0);
        });
        Sentences.holds("(mouths: on the WEEK's first DAY as KNOWN", () -> {
            HungerBooks x = new HungerBooks();
            x.house(0, 6, 0, NONE, 0);
            Due.tell(x, "card bread mouths;", 0);
            x.pass(7);
            x.die(0);
            x.pass(1);
            x.die(0);
            x.hear(0);
            // Died on days 7 and 8, heard of on day 8.
            int[][] rows = {{0, 8, 6}, {1, 7, 6}, {1, 8, 5}, {2, 8, 4}, {2, 7, 6}, {57, 399, 4}};
            for (int[] r : rows) Due.due("card in week " + r[0] + " known by " + r[1], x.card(0, r[0], 0, r[1]), r[2]);
        });
        Sentences.holds("kin: 1 if it has KIN; town; week; came 0).", () -> {
            Due.due("kin", cardBy("card bread kin;", 0), 1);
            HungerBooks x = new HungerBooks();
            x.house(0, 6, 0, NONE, 0);
            Due.tell(x, "card bread kin+5;", 0);
            Due.due("no kin", x.card(0, 0, 0, 0), 5);
            Due.due("town", cardBy("card bread town;", 0), 4);
            Due.due("week 0", cardBy("card bread week;", 0), 0);
            Due.due("week 57", cardBy("card bread week;", 57), 57);
            HungerBooks y = new HungerBooks();
            y.farm(0, 0);
            y.house(0, 1, 0, 0, 0);
            y.crop(0, 0, 9);
            Due.tell(y, "card bread came+3;", 0);
            Due.due("came", y.card(0, 0, 0, 0), 3);
        });
        Sentences.holds("QUOTA of a FARM likewise by \"quota\", held to 0 to 999,999", () -> {
            tells("999999", 999999);
            tells("999999+1", 999999);
            tells("999999-1", 999998);
            tells("0", 0);
            tells("0-1", 0);
            tells("0-999999*999999", 0);
            tells("5 if 1>2;quota bread 6 if 1<2;quota bread 7", 6);
            tells("5 if 1>2", 0);
            tells("5 if 1>2;card bread 6;price bread 7;quota egg 8", 0);
            HungerBooks x = new HungerBooks();
            x.farm(0, 0);
            Due.due("no orders", x.quota(0, 0, 0, 0), 0);
        });
        Sentences.holds("(came: pieces of that GOOD that came there in that WEEK; its town; mouths, kin 0).", () -> {
            HungerBooks x = new HungerBooks();
            x.farm(0, 5);
            x.farm(0, 2);
            x.house(0, 9, 0, 0, 0);
            Due.tell(x, "quota oil came;quota egg town;quota meat mouths+kin+1;", 0);
            x.pass(6);
            x.deliver(x.crop(0, 3, 9999), 9999);
            x.crop(0, 3, 1);
            x.pass(1);
            x.crop(0, 3, 20);
            x.crop(0, 4, 300);
            x.crop(1, 3, 4000);
            Due.due("week 0, delivered or not", x.quota(0, 0, 3, 0), 10000);
            Due.due("week 1", x.quota(0, 1, 3, 0), 20);
            Due.due("week 2", x.quota(0, 2, 3, 0), 0);
            Due.due("the other farm", x.quota(1, 1, 3, 0), 4000);
            Due.due("town", x.quota(0, 0, 1, 0), 5);
            Due.due("the other's town", x.quota(1, 0, 1, 0), 2);
            Due.due("no mouths, no kin", x.quota(0, 0, 2, 0), 1);
        });
        Sentences.holds("PRICE of a GOOD in a WEEK likewise by \"price\", held to 0 to 9,999 (none: 10; all but week 0).", () -> {
            HungerBooks x = new HungerBooks();
            for (int g = 0; g < 6; g++) Due.due("price of " + g + " without orders", x.rule(57, 399, 10 + g), 10);
            Due.tell(x, "price bread 9999;price egg 9999+1;price meat 0-1;price oil 3 if week>56;price oil 4 if week=56;"
                + "price roots mouths+kin+town+came+week;card smoke 5;quota smoke 6;", 0);
            int[][] rows = {{0, 0, 9999}, {1, 0, 9999}, {2, 0, 0}, {3, 57, 3}, {3, 56, 4}, {3, 55, 10}, {4, 57, 57}, {4, 0, 0},
                {5, 0, 10}};
            for (int[] r : rows) Due.due("price of " + r[0] + " in week " + r[1], x.rule(r[1], 0, 10 + r[0]), r[2]);
            Due.tell(x, "price bread 9998;price egg 0;", 0);
            Due.due("just below the most", x.rule(0, 0, 10), 9998);
            Due.due("the least", x.rule(0, 0, 11), 0);
        });
    }

    private static void feed() {
        Sentences.promise(8);
        Sentences.holds("Twenty bytes come behind those on the tape, of each number the highest first: how many there are.", () -> {
            HungerBooks x = new HungerBooks();
            // "fine", " 123", "4;  " and blanks, then "ill ", "77; ".
            Due.due("twenty", x.feed(0x66696e65, 0x20313233, 0x343b2020, 0x20202020, 0x20202020), 20);
            Due.due("forty", x.feed(0x696c6c20, 0x37373b20, 0x20202020, 0x20202020, 0x20202020), 40);
            Due.due("orders of both", x.orders(40, 0), 0);
            Due.due("of the first", x.rule(0, 0, 3), 1234);
            Due.due("of the second", x.rule(0, 0, 1), 77);
            // A number below 0 begins with a byte above 127: it's a byte like others, and begins no token.
            x.feed(0x20202020, 0x202020ff, -1, MIN, MAX);
            x.orders(20, 0);
            Due.due("a byte of 255", x.fault(), 7);
        });
        Sentences.holds("NONE, doing nothing: there would be more than 500.", () -> {
            HungerBooks x = new HungerBooks();
            for (int k = 1; k <= 24; k++) x.feed(0x20202020, 0x20202020, 0x20202020, 0x20202020, 0x20202020);
            Due.due("just 500", x.feed(0x66696e65, 0x20373b20, 0x20202020, 0x20202020, 0x20202020), 500);
            Due.due("twenty more", x.feed(0, 0, 0, 0, 0), NONE);
            Due.due("they are orders", x.orders(500, 0), 0);
            Due.due("the last of them too", x.rule(0, 0, 3), 7);
            Answers.unchanged("feed to a full tape", y -> {
                y.farm(0, 0);
                y.house(0, 1, 0, 0, 0);
                Due.feed(y, " ".repeat(490) + "ill 12345;");
            }, y -> y.feed(-1, -1, -1, -1, -1), NONE);
        });
    }

    private static void orders() {
        Sentences.promise(9);
        Sentences.holds("The first n bytes of the tape (which is empty then) are ORDERS for WEEKS from one on: their number.", () -> {
            HungerBooks x = new HungerBooks();
            Due.feed(x, "fine 12;fine 34;?");
            Due.due("the first eight", x.orders(8, 4), 0);
            Due.due("the tape is empty", x.count(9), 0);
            Due.due("fine of week 4", x.rule(4, 0, 3), 12);
            Due.due("fine of week 57", x.rule(57, 0, 3), 12);
            Due.due("fine of week 3", x.rule(3, 0, 3), 50);
            Due.feed(x, "?");
            Due.due("none of its bytes", x.orders(0, 0), 1);
            Due.due("the tape is empty", x.count(9), 0);
            Due.due("of an empty tape", x.orders(0, 0), 2);
        });
        Sentences.holds("NONE: a FAULT", () -> {
            HungerBooks x = new HungerBooks();
            Due.feed(x, "fine 12;fine 34;?");
            Due.due("a fault", x.orders(17, 0), NONE);
            Due.due("no orders", x.count(4), 0);
            Due.due("no fine", x.rule(0, 0, 3), 50);
            Due.due("the tape is empty", x.count(9), 0);
            Due.feed(x, "fine 7;");
            Due.due("the next ones", x.orders(7, 0), 0);
        });
        Sentences.holds("-2, doing nothing: n is below 0 or more than there are", () -> {
            for (int n : new int[] {MIN, -1, 21, 500, 501, MAX}) {
                Answers.unchanged("orders of " + n, Answers::land, x -> x.orders(n, 0), -2);
            }
            HungerBooks x = new HungerBooks();
            Due.due("one of an empty tape", x.orders(1, 0), -2);
            Due.feed(x, "ill 1;");
            Due.due("as many as there are", x.orders(20, 0), 0);
        });
        Sentences.holds("no such WEEK", () -> {
            for (int week : new int[] {MIN, -1, 58, MAX}) {
                Answers.unchanged("orders for week " + week, Answers::land, x -> x.orders(7, week), -2);
            }
        });
        Sentences.holds("-3, doing nothing: there are 12.", () -> {
            Answers.unchanged("the 13th", BoundsOfOrdersTest::fullOrders, x -> x.orders(7, 0), -3);
            Answers.unchanged("the 13th, with a fault", BoundsOfOrdersTest::fullOrders, x -> x.orders(5, 0), -3);
            Answers.unchanged("the 13th, of none", BoundsOfOrdersTest::fullOrders, x -> x.orders(0, 57), -3);
            Answers.unchanged("-2 ahead of it", BoundsOfOrdersTest::fullOrders, x -> x.orders(21, 0), -2);
            HungerBooks x = new HungerBooks();
            fullOrders(x);
            Due.due("there are", x.count(4), 12);
        });
    }

    /** Twelve ORDERS, and a tape with a rule. */
    private static void fullOrders(HungerBooks x) {
        x.farm(0, 0);
        x.house(0, 1, 0, 0, 0);
        for (int k = 0; k < 12; k++) Due.tell(x, "fine " + k + ";", k / 3);
        Due.feed(x, "ill 77;");
    }

    private static void fault() {
        Sentences.promise(10);
        Sentences.holds("The FAULT's place of the latest orders() that was a number or NONE", () -> {
            HungerBooks x = new HungerBooks();
            Due.tell(x, "ill x", 0);
            Due.due("of NONE", x.fault(), 4);
            Due.tell(x, "x", 0);
            Due.due("of the latest", x.fault(), 0);
            x.orders(1, 0);
            Due.due("-2 leaves it", x.fault(), 0);
            Due.tell(x, "ill 1", 0);
            x.orders(0, 58);
            Due.due("-2 leaves it", x.fault(), 5);
            for (int k = 0; k < 11; k++) x.orders(0, 0);
            Due.tell(x, "fine?1;", 0);
            Due.due("of the latest", x.fault(), 4);
            HungerBooks full = new HungerBooks();
            fullOrders(full);
            Due.due("-3", full.orders(5, 0), -3);
            Due.due("-3 leaves none", full.fault(), NONE);
        });
        Sentences.holds("NONE: it had none.", () -> {
            HungerBooks x = new HungerBooks();
            Due.due("ahead of all orders", x.fault(), NONE);
            Due.tell(x, "x", 0);
            Due.tell(x, "ill 1;", 0);
            Due.due("of good ones behind bad ones", x.fault(), NONE);
            Due.tell(x, "x", 0);
            x.orders(0, 0);
            Due.due("of empty ones behind bad ones", x.fault(), NONE);
        });
    }

    private static void rule() {
        Sentences.promise(11);
        Sentences.holds("Of a WEEK as KNOWN by a DAY: 0 NEED, 1 ILL, 2 PARCEL, 3 FINE", () -> {
            HungerBooks x = new HungerBooks();
            x.pass(1);
            Due.tell(x, "need 1;ill 2;parcel 3;fine 4;", 57);
            int[] first = {1000, 300, 5, 50};
            for (int k = 0; k < 4; k++) {
                Due.due("rule " + k, x.rule(57, 1, k), k + 1);
                Due.due("rule " + k + " as known by day 0", x.rule(57, 0, k), first[k]);
                Due.due("rule " + k + " the week ahead", x.rule(56, 1, k), first[k]);
            }
            Due.tell(x, "need 999999;ill 999999;parcel 999999;fine 999999;", 57);
            for (int k = 0; k < 4; k++) Due.due("the most of rule " + k, x.rule(57, 399, k), 999999);
        });
        Sentences.holds("4 which ORDERS (NONE)", () -> {
            HungerBooks x = new HungerBooks();
            Due.due("no orders", x.rule(0, 0, 4), NONE);
            for (int k = 0; k < 12; k++) x.orders(0, 57);
            Due.due("the last of twelve", x.rule(57, 0, 4), 11);
            Due.due("none in force", x.rule(56, 0, 4), NONE);
        });
        Sentences.holds("10 + g PRICE of GOOD g.", () -> {
            HungerBooks x = new HungerBooks();
            Due.tell(x, "price bread 0;price smoke 9999;", 0);
            Due.due("the first good", x.rule(0, 0, 10), 0);
            Due.due("the last good", x.rule(0, 0, 15), 9999);
        });
        Sentences.holds("NONE: none such.", () -> {
            HungerBooks x = new HungerBooks();
            for (int what : new int[] {MIN, -1, 5, 6, 7, 8, 9, 16, MAX}) Due.due("rule " + what, x.rule(0, 0, what), NONE);
            for (int what : new int[] {0, 1, 2, 3, 4, 10, 15}) {
                for (int wrong : new int[] {MIN, -1, MAX}) {
                    Due.due("week " + wrong + ", rule " + what, x.rule(wrong, 0, what), NONE);
                    Due.due("known " + wrong + ", rule " + what, x.rule(0, wrong, what), NONE);
                }
                Due.due("week 58, rule " + what, x.rule(58, 0, what), NONE);
                Due.due("known 400, rule " + what, x.rule(0, 400, what), NONE);
            }
        });
    }

    private static void card() {
        Sentences.promise(12);
        Sentences.holds("CARD.", () -> {
            HungerBooks x = new HungerBooks();
            Answers.land(x);
            // Of three one died on day 0, heard of on day 1; of nine one died on day 1, unheard of.
            int[][] rows = {{0, 0, 0, 0, 6}, {0, 0, 0, 1, 4}, {0, 57, 0, 399, 4}, {2, 57, 0, 399, 18}, {0, 0, 5, 0, 0}};
            for (int[] r : rows) Due.due("card", x.card(r[0], r[1], r[2], r[3]), r[4]);
        });
        Sentences.holds("NONE: none such.", () -> {
            HungerBooks x = new HungerBooks();
            Answers.land(x);
            for (int house : new int[] {MIN, -1, 3, 100, MAX}) Due.due("house " + house, x.card(house, 0, 0, 0), NONE);
            for (int week : new int[] {MIN, -1, 58, MAX}) Due.due("week " + week, x.card(0, week, 0, 0), NONE);
            for (int good : new int[] {MIN, -1, 6, MAX}) Due.due("good " + good, x.card(0, 0, good, 0), NONE);
            for (int known : new int[] {MIN, -1, 400, MAX}) Due.due("known " + known, x.card(0, 0, 0, known), NONE);
        });
    }

    private static void quota() {
        Sentences.promise(13);
        Sentences.holds("QUOTA.", () -> {
            HungerBooks x = new HungerBooks();
            Answers.land(x);
            int[][] rows = {{0, 0, 4, 0, 15}, {0, 0, 4, 399, 15}, {0, 1, 4, 0, 0}, {1, 0, 4, 0, 0}, {1, 57, 0, 399, 9}, {1, 0, 5, 0, 0}};
            for (int[] r : rows) Due.due("quota", x.quota(r[0], r[1], r[2], r[3]), r[4]);
        });
        Sentences.holds("NONE: none such.", () -> {
            HungerBooks x = new HungerBooks();
            Answers.land(x);
            for (int farm : new int[] {MIN, -1, 2, 100, MAX}) Due.due("farm " + farm, x.quota(farm, 0, 0, 0), NONE);
            for (int week : new int[] {MIN, -1, 58, MAX}) Due.due("week " + week, x.quota(0, week, 0, 0), NONE);
            for (int good : new int[] {MIN, -1, 6, MAX}) Due.due("good " + good, x.quota(0, 0, good, 0), NONE);
            for (int known : new int[] {MIN, -1, 400, MAX}) Due.due("known " + known, x.quota(0, 0, 0, known), NONE);
        });
    }
}
