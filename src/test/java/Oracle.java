import java.math.BigInteger;
import java.util.ArrayList;
import java.util.Arrays;
import java.util.Comparator;
import java.util.HashMap;
import java.util.HashSet;
import java.util.LinkedHashSet;
import java.util.List;
import java.util.Map;
import java.util.Set;

/**
 * A second reading of the document, written without a thought of speed or room and by other means than the
 * class (an Earley recogniser, all rows of a plan, all tickets counted anew), to hold the class against.
 */
final class Oracle {
    static final String[] GOOD_NAMES = {"bread", "egg", "meat", "oil", "roots", "smoke"};
    static final String[] SETTING_NAMES = {"need", "ill", "parcel", "fine"};
    static final int[] SETTING_VALUES = {1000, 300, 5, 50};

    static final class Home {
        int town, mouths, kin, garden, ill;
        long coins, ate, ateOfParcels;
        List<int[]> deaths = new ArrayList<>();
        Map<Integer, Long> lack = new HashMap<>();
    }

    static final class Yard {
        int town;
        long coins;
        int[][] fields = new int[6][2];
    }

    static final class Batch {
        int good, first, now, holder, from, way, coins, born, handed, eaten, spoiled;
        boolean forged;
    }

    static final class Told {
        int day, week;
        List<List<String>> rules = new ArrayList<>();
    }

    int[] measures = {200, 80, 150, 300, 60, 0};
    int[] keeps = {5, 14, 10, 100, 60, 400};
    List<Home> homes = new ArrayList<>();
    List<Yard> yards = new ArrayList<>();
    List<Batch> lots = new ArrayList<>();
    List<Told> told = new ArrayList<>();
    List<Integer> tape = new ArrayList<>();
    int today = 0;
    int faultAt = -1;
    Map<Integer, int[]> rates = new HashMap<>();
    int[][] miles = new int[16][16];
    List<int[]> posts = new ArrayList<>();

    static boolean in(long v, long a, long b) {
        return a <= v && v <= b;
    }

    boolean isHome(int h) {
        return in(h, 0, homes.size() - 1);
    }

    boolean isYard(int f) {
        return in(f, 0, yards.size() - 1);
    }

    boolean isPurse(int holder) {
        return isHome(holder) || in(holder, 100, 99 + yards.size());
    }

    long purse(int holder) {
        return holder < 100 ? homes.get(holder).coins : yards.get(holder - 100).coins;
    }

    void pay(int holder, long coins) {
        if (holder < 100) homes.get(holder).coins += coins;
        else yards.get(holder - 100).coins += coins;
    }

    // ---- section 1

    boolean good(int good, int measures, int keeps) {
        if (!in(good, 0, 5) || !in(measures, 0, 999) || !in(keeps, 1, 400) || !lots.isEmpty()) return false;
        this.measures[good] = measures;
        this.keeps[good] = keeps;
        return true;
    }

    int house(int town, int mouths, int coins, int kin, int garden) {
        if (!in(town, 0, 5) || !in(mouths, 1, 9) || !in(coins, 0, 99999) || !in(garden, 0, 99999)) return -1;
        if (kin != -1 && !isYard(kin) || homes.size() == 24) return -1;
        Home h = new Home();
        h.town = town;
        h.mouths = mouths;
        h.coins = coins;
        h.kin = kin;
        h.garden = garden;
        homes.add(h);
        return homes.size() - 1;
    }

    int farm(int place, int town) {
        if (!in(place, 0, 15) || !in(town, 0, 5) || yards.size() == 10) return -1;
        Yard y = new Yard();
        y.town = town;
        yards.add(y);
        return yards.size() - 1;
    }

    int die(int house) {
        if (!isHome(house)) return -1;
        Home h = homes.get(house);
        if (h.mouths - h.deaths.size() == 1) return -1;
        h.deaths.add(new int[] {today, -1});
        return h.mouths - h.deaths.size();
    }

    int hear(int house) {
        if (!isHome(house)) return -1;
        int n = 0;
        for (int[] d : homes.get(house).deaths) {
            if (d[1] == -1) {
                d[1] = today;
                n++;
            }
        }
        return n;
    }

    int mouths(int house, int day, int known) {
        if (!isHome(house) || !in(day, 0, 399) || !in(known, -1, 399)) return -1;
        Home h = homes.get(house);
        int n = h.mouths;
        for (int[] d : h.deaths) {
            boolean died = d[0] <= day;
            boolean counts = known == -1 || d[1] != -1 && d[1] <= known;
            if (died && counts) n--;
        }
        return n;
    }

    // ---- section 2

    int feed(int a, int b, int c, int d, int e) {
        if (tape.size() + 20 > 500) return -1;
        for (int v : new int[] {a, b, c, d, e}) {
            for (int k = 3; k >= 0; k--) tape.add((v >> (8 * k)) & 0xff);
        }
        return tape.size();
    }

    int orders(int n, int week) {
        if (n < 0 || n > tape.size() || !in(week, 0, 57)) return -2;
        if (told.size() == 12) return -3;
        List<Integer> text = new ArrayList<>(tape.subList(0, n));
        tape.clear();
        Told t = new Told();
        t.day = today;
        t.week = week;
        faultAt = read(text, t);
        if (faultAt != -1) return -1;
        told.add(t);
        return told.size() - 1;
    }

    int fault() {
        return faultAt;
    }

    static boolean letter(int b) {
        return 'a' <= b && b <= 'z';
    }

    static boolean digit(int b) {
        return '0' <= b && b <= '9';
    }

    static int read(List<Integer> text, Told into) {
        int n = text.size();
        List<String> words = new ArrayList<>();
        List<Integer> at = new ArrayList<>();
        for (int i = 0; i < n;) {
            int b = text.get(i);
            if (b == 32 || b == 10) {
                i++;
                continue;
            }
            int j = i + 1;
            if (letter(b)) while (j < n && letter(text.get(j))) j++;
            else if (digit(b)) while (j < n && digit(text.get(j))) j++;
            StringBuilder w = new StringBuilder();
            for (int k = i; k < j; k++) w.append((char) (int) text.get(k));
            words.add(w.toString());
            at.add(i);
            i = j;
        }
        int i = 0;
        while (i < words.size()) {
            if (into.rules.size() == 24) return at.get(i);
            Earley e = new Earley("RULE");
            int from = i;
            while (!e.complete("RULE")) {
                if (i == words.size()) return n;
                if (!e.take(words.get(i))) return at.get(i);
                i++;
            }
            into.rules.add(new ArrayList<>(words.subList(from, i - 1)));
        }
        return -1;
    }

    /** A recogniser that knows after each token whether some text goes on with it. */
    static final class Earley {
        record Item(String head, List<String> body, int dot, int from) { }

        private static final Map<String, List<List<String>>> GRAMMAR = new HashMap<>();

        static void put(String head, String... bodies) {
            List<List<String>> all = new ArrayList<>();
            for (String b : bodies) all.add(Arrays.asList(b.split(" ")));
            GRAMMAR.put(head, all);
        }

        static {
            put("RULE", "GRADED GOOD EX0 ;", "GRADED GOOD EX0 if COND0 ;", "need #1 ;", "SET # ;");
            put("GRADED", "card", "quota", "price");
            put("SET", "ill", "parcel", "fine");
            put("GOOD", GOOD_NAMES);
            put("NAME", "mouths", "kin", "town", "week", "came");
            for (int d = 0; d <= 9; d++) {
                String e = "EX" + d, p = "PROD" + d, a = "ATOM" + d, c = "COND" + d, l = "ALL" + d, o = "ONE" + d;
                put(e, p, e + " + " + p, e + " - " + p);
                put(p, a, p + " * " + a, p + " / " + a);
                put(c, l, c + " or " + l);
                put(l, o, l + " and " + o);
                if (d < 9) {
                    put(a, "#", "NAME", "( EX" + (d + 1) + " )");
                    put(o, "not ONE" + (d + 1), "{ COND" + (d + 1) + " }",
                            e + " < " + e, e + " > " + e, e + " = " + e);
                } else {
                    put(a, "#", "NAME");
                    put(o, e + " < " + e, e + " > " + e, e + " = " + e);
                }
            }
        }

        final List<Set<Item>> sets = new ArrayList<>();

        Earley(String start) {
            Set<Item> first = new LinkedHashSet<>();
            for (List<String> b : GRAMMAR.get(start)) first.add(new Item(start, b, 0, 0));
            sets.add(first);
            close();
        }

        void close() {
            int here = sets.size() - 1;
            List<Item> work = new ArrayList<>(sets.get(here));
            for (int k = 0; k < work.size(); k++) {
                Item it = work.get(k);
                List<Item> more = new ArrayList<>();
                if (it.dot == it.body.size()) {
                    for (Item up : sets.get(it.from)) {
                        if (up.dot < up.body.size() && up.body.get(up.dot).equals(it.head)) {
                            more.add(new Item(up.head, up.body, up.dot + 1, up.from));
                        }
                    }
                } else if (GRAMMAR.containsKey(it.body.get(it.dot))) {
                    String head = it.body.get(it.dot);
                    for (List<String> b : GRAMMAR.get(head)) more.add(new Item(head, b, 0, here));
                }
                for (Item m : more) {
                    if (sets.get(here).add(m)) work.add(m);
                }
            }
        }

        boolean complete(String head) {
            for (Item it : sets.get(sets.size() - 1)) {
                if (it.head.equals(head) && it.dot == it.body.size() && it.from == 0) return true;
            }
            return false;
        }

        boolean take(String word) {
            Set<String> classes = new HashSet<>();
            if (digit(word.charAt(0))) {
                if (word.length() <= 6) classes.add("#");
                if (word.length() <= 6 && Integer.parseInt(word) >= 1) classes.add("#1");
            } else {
                classes.add(word);
            }
            Set<Item> next = new LinkedHashSet<>();
            for (Item it : sets.get(sets.size() - 1)) {
                if (it.dot < it.body.size() && !GRAMMAR.containsKey(it.body.get(it.dot))
                        && classes.contains(it.body.get(it.dot))) {
                    next.add(new Item(it.head, it.body, it.dot + 1, it.from));
                }
            }
            sets.add(next);
            close();
            return !next.isEmpty();
        }
    }

    int force(int week, int known) {
        int best = -1;
        for (int w = 57; w >= 0 && best == -1; w--) {
            for (int k = 0; k < told.size(); k++) {
                if (w <= week && told.get(k).week == w && told.get(k).day <= known) best = k;
            }
        }
        return best;
    }

    int setting(int which, int week, int known) {
        int k = force(week, known);
        int v = SETTING_VALUES[which];
        if (k != -1) {
            for (List<String> r : told.get(k).rules) {
                if (r.get(0).equals(SETTING_NAMES[which])) v = Integer.parseInt(r.get(1));
            }
        }
        return v;
    }

    int graded(String kind, int good, int week, int known, int none, int most, Map<String, Integer> names) {
        int k = force(week, known);
        if (k == -1) return none;
        for (List<String> r : told.get(k).rules) {
            if (!r.get(0).equals(kind) || !r.get(1).equals(GOOD_NAMES[good])) continue;
            int cut = r.indexOf("if");
            List<String> ex = r.subList(2, cut == -1 ? r.size() : cut);
            if (cut != -1 && !holds(r.subList(cut + 1, r.size()), names)) continue;
            return (int) Math.max(0, Math.min(most, value(ex, names)));
        }
        return none;
    }

    /** The last place where one of the words stands outside all brackets; -1. */
    static int lastOutside(List<String> t, String... words) {
        int open = 0;
        for (int k = t.size() - 1; k >= 0; k--) {
            String w = t.get(k);
            if (w.equals(")") || w.equals("}")) open++;
            else if (w.equals("(") || w.equals("{")) open--;
            else if (open == 0 && Arrays.asList(words).contains(w)) return k;
        }
        return -1;
    }

    static boolean holds(List<String> t, Map<String, Integer> names) {
        int k = lastOutside(t, "or");
        if (k != -1) return holds(t.subList(0, k), names) | holds(t.subList(k + 1, t.size()), names);
        k = lastOutside(t, "and");
        if (k != -1) return holds(t.subList(0, k), names) & holds(t.subList(k + 1, t.size()), names);
        if (t.get(0).equals("not")) return !holds(t.subList(1, t.size()), names);
        if (t.get(0).equals("{")) return holds(t.subList(1, t.size() - 1), names);
        k = lastOutside(t, "<", ">", "=");
        long a = value(t.subList(0, k), names), b = value(t.subList(k + 1, t.size()), names);
        return switch (t.get(k)) {
            case "<" -> a < b;
            case ">" -> a > b;
            default -> a == b;
        };
    }

    static long value(List<String> t, Map<String, Integer> names) {
        int k = lastOutside(t, "+", "-");
        if (k == -1) k = lastOutside(t, "*", "/");
        if (k == -1) {
            if (t.get(0).equals("(")) return value(t.subList(1, t.size() - 1), names);
            return names.containsKey(t.get(0)) ? names.get(t.get(0)) : Long.parseLong(t.get(0));
        }
        long a = value(t.subList(0, k), names), b = value(t.subList(k + 1, t.size()), names);
        long v = switch (t.get(k)) {
            case "+" -> a + b;
            case "-" -> a - b;
            case "*" -> a * b;
            default -> b == 0 ? 0 : a / b;
        };
        return Math.max(-1000000000L, Math.min(1000000000L, v));
    }

    static Map<String, Integer> names(int mouths, int kin, int town, int week, int came) {
        return Map.of("mouths", mouths, "kin", kin, "town", town, "week", week, "came", came);
    }

    int price(int good, int week, int known) {
        return graded("price", good, week, known, 10, 9999, names(0, 0, 0, week, 0));
    }

    int rule(int week, int known, int what) {
        if (!in(week, 0, 57) || !in(known, 0, 399)) return -1;
        if (in(what, 0, 3)) return setting(what, week, known);
        if (what == 4) return force(week, known);
        return in(what, 10, 15) ? price(what - 10, week, known) : -1;
    }

    int cardWith(int house, int week, int good, int known, int mouths) {
        Home h = homes.get(house);
        return graded("card", good, week, known, 0, 99, names(mouths, h.kin == -1 ? 0 : 1, h.town, week, 0));
    }

    int card(int house, int week, int good, int known) {
        if (!isHome(house) || !in(week, 0, 57) || !in(good, 0, 5) || !in(known, 0, 399)) return -1;
        return cardWith(house, week, good, known, mouths(house, 7 * week, known));
    }

    int quota(int farm, int week, int good, int known) {
        if (!isYard(farm) || !in(week, 0, 57) || !in(good, 0, 5) || !in(known, 0, 399)) return -1;
        int came = 0;
        for (Batch l : lots) {
            if (l.way == 0 && l.holder == 100 + farm && l.good == good && l.born / 7 == week) came += l.first;
        }
        return graded("quota", good, week, known, 0, 999999, names(0, 0, yards.get(farm).town, week, came));
    }

    // ---- section 3

    int add(int good, int pieces, int holder, int from, int way, int coins) {
        Batch l = new Batch();
        l.good = good;
        l.first = pieces;
        l.now = pieces;
        l.holder = holder;
        l.from = from;
        l.way = way;
        l.coins = coins;
        l.born = from == -1 ? today : lots.get(from).born;
        l.handed = today;
        if (from != -1) lots.get(from).now -= pieces;
        lots.add(l);
        return lots.size() - 1;
    }

    boolean has(int lot, int pieces) {
        return in(lot, 0, lots.size() - 1) && in(pieces, 1, lots.get(lot).now);
    }

    int crop(int farm, int good, int pieces) {
        if (!isYard(farm) || !in(good, 0, 5) || !in(pieces, 1, 9999) || lots.size() == 400) return -1;
        return add(good, pieces, 100 + farm, -1, 0, 0);
    }

    int deliver(int lot, int pieces) {
        if (!has(lot, pieces) || lots.size() == 400) return -1;
        Batch l = lots.get(lot);
        if (!in(l.holder, 100, 199)) return -1;
        int paid = pieces * price(l.good, today / 7, today);
        pay(l.holder, paid);
        return add(l.good, pieces, 200 + yards.get(l.holder - 100).town, lot, 1, paid);
    }

    int ticketed(int house, int week, int good) {
        int n = 0;
        for (Batch l : lots) {
            if (l.way == 2 && !l.forged && l.holder == house && l.good == good && l.handed / 7 == week) n += l.first;
        }
        return n;
    }

    long buy(int house, int good, int pieces, boolean forged) {
        if (!isHome(house) || !in(good, 0, 5) || pieces < 1) return -1;
        Home h = homes.get(house);
        List<Integer> there = new ArrayList<>();
        long all = 0;
        for (int k = 0; k < lots.size(); k++) {
            Batch l = lots.get(k);
            if (l.holder == 200 + h.town && l.good == good && l.now > 0) {
                there.add(k);
                all += l.now;
            }
        }
        if (all < pieces) return -2;
        int week = today / 7;
        if (!forged && ticketed(house, week, good) + pieces > card(house, week, good, today)) return -3;
        long price = price(good, week, today);
        if (price * pieces > h.coins) return -4;
        there.sort(Comparator.comparingInt(k -> lots.get(k).born));
        List<int[]> parts = new ArrayList<>();
        int left = pieces;
        for (int k : there) {
            int part = Math.min(left, lots.get(k).now);
            if (part > 0) parts.add(new int[] {k, part});
            left -= part;
        }
        if (lots.size() + parts.size() > 400) return -5;
        h.coins -= price * pieces;
        for (int[] p : parts) lots.get(add(good, p[1], house, p[0], 2, (int) price * p[1])).forged = forged;
        return price * pieces;
    }

    int deal(int lot, int pieces, int to, int coins) {
        if (!has(lot, pieces) || !isPurse(to) || !in(coins, 0, 99999) || lots.size() == 400) return -1;
        Batch l = lots.get(lot);
        if (!isPurse(l.holder) || l.holder == to || purse(to) < coins) return -1;
        pay(to, -coins);
        pay(l.holder, coins);
        return add(l.good, pieces, to, lot, 3, coins);
    }

    int parcel(int lot, int pieces, int house) {
        if (!has(lot, pieces) || !isHome(house) || lots.size() == 400) return -1;
        Home h = homes.get(house);
        if (h.kin == -1 || lots.get(lot).holder != 100 + h.kin) return -1;
        int n = pieces;
        for (Batch l : lots) {
            if (l.way == 4 && l.holder == house && l.handed / 7 == today / 7) n += l.first;
        }
        if (n > setting(2, today / 7, today)) return -1;
        return add(lots.get(lot).good, pieces, house, lot, 4, 0);
    }

    int seize(int lot) {
        if (!has(lot, 1) || lots.size() == 400 || !isPurse(lots.get(lot).holder)) return -1;
        Batch l = lots.get(lot);
        pay(l.holder, -Math.min(purse(l.holder), setting(3, today / 7, today)));
        return add(l.good, l.now, 300, lot, 5, 0);
    }

    int pass(int n) {
        if (!in(n, 1, 60) || today + n > 399) return -1;
        for (int k = 0; k < n; k++) {
            for (int h = 0; h < homes.size(); h++) eat(h);
            for (Batch l : lots) {
                if (l.born + keeps[l.good] <= today) {
                    l.spoiled += l.now;
                    l.now = 0;
                }
            }
            today++;
        }
        return today;
    }

    void eat(int house) {
        Home h = homes.get(house);
        long wanted = (long) setting(0, today / 7, today) * mouths(house, today, -1);
        List<Batch> larder = new ArrayList<>();
        for (Batch l : lots) {
            if (l.holder == house && measures[l.good] > 0) larder.add(l);
        }
        larder.sort(Comparator.comparingInt(l -> l.born + keeps[l.good]));
        long ate = 0;
        for (Batch l : larder) {
            while (l.now > 0 && ate < wanted) {
                l.now--;
                l.eaten++;
                ate += measures[l.good];
                if (l.way == 4) h.ateOfParcels += measures[l.good];
            }
        }
        h.ate += ate;
        h.lack.put(today, Math.max(0, wanted - ate));
        long week = 0;
        for (int d = today - 6; d <= today; d++) week += h.lack.getOrDefault(d, 0L);
        if (week * 100 > setting(1, today / 7, today) * wanted) h.ill++;
    }

    int lotOf(int lot, int what) {
        if (!in(lot, 0, lots.size() - 1) || !in(what, 0, 10)) return -1;
        Batch l = lots.get(lot);
        int hands = 0;
        for (int k = l.from; k != -1; k = lots.get(k).from) hands++;
        return new int[] {l.good, l.now, l.holder, l.from, l.way, l.coins, l.born, l.eaten, l.spoiled, l.first, hands}[what];
    }

    int led(int lot, int what) {
        if (!in(lot, 0, lots.size() - 1) || !in(what, 0, 5) || lots.get(lot).way != 0) return -1;
        int[] sums = new int[6];
        for (int k = 0; k < lots.size(); k++) {
            int root = k;
            while (lots.get(root).from != -1) root = lots.get(root).from;
            if (root != lot) continue;
            Batch l = lots.get(k);
            sums[new int[] {2, 0, 1, 3}[l.holder / 100]] += l.now;
            sums[4] += l.eaten;
            sums[5] += l.spoiled;
        }
        return sums[what];
    }

    long coins(int holder) {
        return isPurse(holder) ? purse(holder) : -1;
    }

    long houseOf(int house, int what) {
        if (!isHome(house) || !in(what, 0, 5)) return -1;
        Home h = homes.get(house);
        long now = 0, forged = 0, lack = 0;
        for (Batch l : lots) {
            if (l.holder == house) now += l.now;
            if (l.holder == house && l.forged) forged += l.first;
        }
        for (long v : h.lack.values()) lack += v;
        return new long[] {now, h.ate, lack, h.ill, lack + h.ateOfParcels, forged}[what];
    }

    int lack(int house, int day) {
        if (!isHome(house) || !in(day, 0, today - 1)) return -1;
        return (int) (long) homes.get(house).lack.getOrDefault(day, 0L);
    }

    // ---- section 4

    int fake(int town, int week, int good, int known) {
        if (!in(town, 0, 5) || !in(week, 0, 57) || !in(good, 0, 5) || !in(known, 0, 399)) return -1;
        int n = 0;
        for (Batch l : lots) {
            if (l.way == 2 && homes.get(l.holder).town == town && l.good == good && l.handed / 7 == week) n += l.first;
        }
        for (int h = 0; h < homes.size(); h++) {
            if (homes.get(h).town == town) n -= card(h, week, good, known);
        }
        return Math.max(0, n);
    }

    int dead(int house, int week, int good) {
        if (!isHome(house) || !in(week, 0, 57) || !in(good, 0, 5)) return -1;
        return Math.max(0, ticketed(house, week, good)
                - cardWith(house, week, good, today, mouths(house, 7 * week, -1)));
    }

    int deliveredBy(int farm, int good, int a, int b) {
        int n = 0;
        for (Batch l : lots) {
            if (l.way == 1 && lots.get(l.from).holder == 100 + farm && l.good == good && in(l.handed / 7, a, b)) n += l.first;
        }
        return n;
    }

    int shortOf(int farm, int week, int good, int known) {
        int due = quota(farm, week, good, known);
        return due == -1 ? -1 : Math.max(0, due - deliveredBy(farm, good, week, week));
    }

    boolean field(int farm, int good, int from, int to) {
        if (!isYard(farm) || !in(good, 0, 5) || !in(from, 0, 9999) || !in(to, 0, 9999) || from > to) return false;
        yards.get(farm).fields[good] = new int[] {from, to};
        return true;
    }

    int elsewhere(int farm, int good, int a, int b, int what) {
        if (!isYard(farm) || !in(good, 0, 5) || !in(a, 0, 57) || !in(b, a, 57) || !in(what, 0, 1)) return -1;
        int n = 0;
        for (int w = a; w <= b; w++) n += yards.get(farm).fields[good][what];
        return Math.max(0, n - deliveredBy(farm, good, a, b));
    }

    boolean exchange(int from, int to, int take, int give) {
        if (!in(from, 0, 11) || !in(to, 0, 11) || from == to || !in(take, 1, 99) || !in(give, 0, 99)) return false;
        rates.remove(from * 12 + to);
        if (give > 0) rates.put(from * 12 + to, new int[] {take, give});
        return true;
    }

    int round(int desk, int what) {
        if (!in(desk, 0, 11)) return -1;
        List<int[]> ways = new ArrayList<>();
        for (int a = 0; a < 12; a++) {
            if (a != desk) ways.add(new int[] {desk, a, desk});
        }
        for (int a = 0; a < 12; a++) {
            for (int b = 0; b < 12; b++) {
                if (a != desk && b != desk && a != b) ways.add(new int[] {desk, a, b, desk});
            }
        }
        int[] best = null;
        BigInteger up = BigInteger.ONE, down = BigInteger.ONE;
        for (int[] w : ways) {
            BigInteger u = BigInteger.ONE, d = BigInteger.ONE;
            for (int k = 1; k < w.length && u != null; k++) {
                int[] r = rates.get(w[k - 1] * 12 + w[k]);
                u = r == null ? null : u.multiply(BigInteger.valueOf(r[1]));
                d = r == null ? d : d.multiply(BigInteger.valueOf(r[0]));
            }
            if (u != null && u.multiply(down).compareTo(up.multiply(d)) > 0) {
                best = w;
                up = u;
                down = d;
            }
        }
        if (best == null) return -1;
        if (what == 0) return up.multiply(BigInteger.valueOf(1000)).divide(down).intValue();
        if (what == 1) return best.length - 1;
        return in(what, 10, 10 + best.length - 3) ? best[what - 9] : -1;
    }

    boolean road(int a, int b, int length) {
        if (!in(a, 0, 15) || !in(b, 0, 15) || a == b || !in(length, 0, 99)) return false;
        miles[a][b] = length;
        miles[b][a] = length;
        return true;
    }

    int post(int a, int b, int m, int r) {
        if (!in(a, 0, 15) || !in(b, 0, 15) || a == b || !in(m, 1, 9) || !in(r, 0, m - 1) || posts.size() == 20) return -1;
        posts.add(new int[] {Math.min(a, b), Math.max(a, b), m, r});
        return posts.size();
    }

    int way(int day, int from, int to, int what) {
        if (!in(day, 0, 399) || !in(from, 0, 15) || !in(to, 0, 15) || !in(what, 0, 1)) return -1;
        int[][] best = new int[16][];
        best[from] = new int[] {0, 0};
        for (int round = 0; round < 16; round++) {
            for (int a = 0; a < 16; a++) {
                for (int b = 0; b < 16; b++) {
                    if (best[a] == null || miles[a][b] == 0) continue;
                    int p = best[a][0], m = best[a][1] + miles[a][b];
                    for (int[] q : posts) {
                        if (q[0] == Math.min(a, b) && q[1] == Math.max(a, b) && day % q[2] == q[3]) p++;
                    }
                    if (best[b] == null || p < best[b][0] || p == best[b][0] && m < best[b][1]) best[b] = new int[] {p, m};
                }
            }
        }
        return best[to] == null ? -1 : best[to][what];
    }

    /** ILL and the stock left of a row; null if the stock isn't enough. */
    long[] rowOf(int town, int[] digits, long stock) {
        int need = setting(0, today / 7, today);
        long bound = setting(1, today / 7, today);
        long ill = 0;
        long left = stock;
        for (int w = 0; w < digits.length; w++) {
            for (int h = 0; h < homes.size(); h++) {
                if (homes.get(h).town != town) continue;
                long mouths = mouths(h, today, -1);
                long all = 7L * need * mouths;
                long given = all * (40 + 20 * digits[w]) / 100;
                long lack = Math.max(0, all - given - homes.get(h).garden);
                if (w > 0) lack += Math.max(0, all - all * (40 + 20 * digits[w - 1]) / 100 - homes.get(h).garden);
                if (lack * 100 > bound * need * mouths) ill++;
                left -= given;
            }
            if (left < 0) return null;
        }
        return new long[] {ill, left};
    }

    static int[] digits(int row, int weeks) {
        int[] d = new int[weeks];
        for (int w = weeks - 1; w >= 0; w--) {
            d[w] = row % 4;
            row /= 4;
        }
        return d;
    }

    int plan(int town, int weeks, int stock, int what) {
        if (!in(town, 0, 5) || !in(weeks, 1, 8) || !in(stock, 0, 99999999)) return -1;
        if (!in(what, 0, 1) && !in(what, 10, 9 + weeks)) return -1;
        long[] best = null;
        int[] bestRow = null;
        for (int row = 0; row < 1 << (2 * weeks); row++) {
            int[] d = digits(row, weeks);
            long[] r = rowOf(town, d, stock);
            if (r != null && (best == null || r[0] < best[0] || r[0] == best[0] && r[1] > best[1])) {
                best = r;
                bestRow = d;
            }
        }
        if (best == null) return -1;
        return what < 2 ? (int) best[what] : bestRow[what - 10];
    }

    int judge(int town, int weeks, int stock, int row, int what) {
        if (!in(town, 0, 5) || !in(weeks, 1, 8) || !in(stock, 0, 99999999) || !in(what, 0, 1)) return -1;
        if (!in(row, 0, (1 << (2 * weeks)) - 1)) return -1;
        long[] r = rowOf(town, digits(row, weeks), stock);
        return r == null ? -1 : (int) r[what];
    }

    int count(int what) {
        int alive = 0, died = 0, pieces = 0;
        for (Home h : homes) {
            alive += h.mouths - h.deaths.size();
            died += h.deaths.size();
        }
        for (Batch l : lots) pieces += l.now;
        int[] all = {today, homes.size(), yards.size(), lots.size(), told.size(), alive, died, posts.size(), pieces, tape.size()};
        return in(what, 0, 9) ? all[what] : -1;
    }
}
