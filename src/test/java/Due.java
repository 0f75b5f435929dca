/** What the tests share: an answer held against the one that is due, and ORDERS told as a text. */
final class Due {
    private static int wrong = 0;

    private Due() {
    }

    static void due(String call, long got, long want) {
        if (got != want) {
            wrong++;
            System.out.println(call + " answered " + got + ", due is " + want);
        }
    }

    static void due(String call, boolean got, boolean want) {
        due(call, got ? 1 : 0, want ? 1 : 0);
    }

    static int wrong() {
        return wrong;
    }

    static void end(String name) {
        System.out.println(name + (wrong == 0 ? ": all answers are as due" : ": " + wrong + " answers are not as due"));
        if (wrong != 0) System.exit(1);
    }

    /** Lets DAYS go by up to one; a pass() that is refused does not hold up the test. */
    static void passTo(HungerBooks x, int day) {
        for (int k = 0; k < 20 && x.count(0) < day; k++) x.pass(Math.min(60, day - x.count(0)));
    }

    /** Feeds a text, with blanks behind it up to the next twenty. */
    static int feed(HungerBooks x, String text) {
        int there = x.count(9);
        for (int k = 0; k < text.length(); k += 20) {
            int[] five = new int[5];
            for (int j = 0; j < 20; j++) {
                int sign = k + j < text.length() ? text.charAt(k + j) : ' ';
                five[j / 4] = five[j / 4] << 8 | sign & 255;
            }
            there = x.feed(five[0], five[1], five[2], five[3], five[4]);
        }
        return there;
    }

    /** What orders() answers to just this text. */
    static int tell(HungerBooks x, String text, int week) {
        if (x.count(9) != 0) throw new IllegalStateException("other bytes stand on the tape ahead of " + text);
        feed(x, text);
        return x.orders(text.length(), week);
    }

    /** Texts told to new objects: a FAULT stands behind the sign ^; without that sign there is none. */
    static void faults(String... marked) {
        for (String text : marked) due("fault of '" + text + "'", faultOf(text.replace("^", "")), text.indexOf('^'));
    }

    /** The FAULT of a text told to a new object; NONE: it has none. */
    static int faultOf(String text) {
        HungerBooks x = new HungerBooks();
        int told = tell(x, text, 0);
        int fault = x.fault();
        if (told != (fault == HungerBooks.NONE ? 0 : HungerBooks.NONE)) {
            due("orders of '" + text + "' against its fault " + fault, told, fault == HungerBooks.NONE ? 0 : -1);
        }
        return fault;
    }
}
