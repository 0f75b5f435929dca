import java.util.Arrays;

/** A hungry land's books; ../shared/DOC.md says what each call answers. */
public final class HungerBooks {
    public static final int NONE = -1;

    private static final int DAYS = 400;
    private static final int WEEK_DAYS = 7;
    private static final int WEEKS = 58;
    private static final int GOODS = 6;
    private static final int TOWNS = 6;
    private static final int PLACES = 16;
    private static final int MOST_HOUSES = 24;
    private static final int MOST_FARMS = 10;
    private static final int MOST_LOTS = 400;
    private static final int MOST_ORDERS = 12;
    private static final int MOST_BYTES = 500;
    private static final int MOST_MOUTHS = 9;
    private static final int MOST_WEEKS_PLANNED = 8;
    private static final int MOST_STOCK = 99999999;
    private static final int MOST_PURSE = 99999;
    private static final int MOST_CROP = 9999;

    private static final int[] FIRST_MEASURES = {200, 80, 150, 300, 60, 0};
    private static final int[] FIRST_KEEPS = {5, 14, 10, 100, 60, 400};

    private static final int FARM_HOLDERS = 100;
    private static final int SHOP_HOLDERS = 200;
    private static final int POLICE = 300;

    private static final int CROP = 0;
    private static final int DELIVERED = 1;
    private static final int BOUGHT = 2;
    private static final int DEALT = 3;
    private static final int PARCEL = 4;
    private static final int SEIZED = 5;

    private static final int NEED_RULE = 0;
    private static final int ILL_RULE = 1;
    private static final int PARCEL_RULE = 2;
    private static final int FINE_RULE = 3;

    private final int[] measures = FIRST_MEASURES.clone();
    private final int[] keeps = FIRST_KEEPS.clone();
    private final House[] houses = new House[MOST_HOUSES];
    private int houseCount = 0;
    private final Farm[] farms = new Farm[MOST_FARMS];
    private int farmCount = 0;
    private final Lot[] lots = new Lot[MOST_LOTS];
    private int lotCount = 0;
    private int today = 0;
    private final int[] tape = new int[MOST_BYTES];
    private int taped = 0;
    private int faultPlace = NONE;
    private final Reader reader = new Reader();
    private final Decrees decrees = new Decrees();
    private final Desks desks = new Desks();
    private final Roads roads = new Roads();
    private final Planner planner = new Planner();

    public HungerBooks() {
    }

    // ---- goods, houses and farms

    public boolean good(int good, int measures, int keeps) {
        boolean told = isGood(good) && within(measures, 0, 999) && within(keeps, 1, 400);
        if (!told || lotCount > 0) {
            return false;
        }
        this.measures[good] = measures;
        this.keeps[good] = keeps;
        return true;
    }

    public int house(int town, int mouths, int coins, int kin, int garden) {
        boolean told = isTown(town) && within(mouths, 1, MOST_MOUTHS)
                && within(coins, 0, MOST_PURSE) && within(garden, 0, MOST_PURSE)
                && (kin == NONE || farmAt(kin) != null);
        if (!told || houseCount >= MOST_HOUSES) {
            return NONE;
        }
        int number = houseCount;
        houses[number] = new House(number, town, mouths, coins, kin, garden);
        houseCount++;
        return number;
    }

    public int farm(int place, int town) {
        if (!isPlace(place) || !isTown(town) || farmCount >= MOST_FARMS) {
            return NONE;
        }
        int number = farmCount;
        farms[number] = new Farm(town);
        farmCount++;
        return number;
    }

    public int die(int house) {
        House home = houseAt(house);
        if (home == null || !home.loseMouth(today)) {
            return NONE;
        }
        return home.living();
    }

    public int hear(int house) {
        House home = houseAt(house);
        return home == null ? NONE : home.tellDeaths(today);
    }

    public int mouths(int house, int day, int known) {
        House home = houseAt(house);
        if (home == null || !isDay(day)) {
            return NONE;
        }
        if (known == NONE) {
            return home.mouthsOn(day);
        }
        return isDay(known) ? home.mouthsKnown(day, known) : NONE;
    }

    // ---- orders

    public int feed(int a, int b, int c, int d, int e) {
        if (taped > MOST_BYTES - 20) {
            return NONE;
        }
        putBytes(a);
        putBytes(b);
        putBytes(c);
        putBytes(d);
        putBytes(e);
        return taped;
    }

    private void putBytes(int four) {
        for (int shift = 24; shift >= 0 && taped < MOST_BYTES; shift -= 8) {
            tape[taped] = (four >>> shift) & 255;
            taped++;
        }
    }

    public int orders(int n, int week) {
        if (n < 0 || n > taped || !isWeek(week)) {
            return -2;
        }
        if (decrees.size >= MOST_ORDERS) {
            return -3;
        }
        taped = 0;
        if (!reader.read(tape, n)) {
            faultPlace = reader.start;
            return NONE;
        }
        faultPlace = NONE;
        return decrees.keep(new Orders(reader, today, week));
    }

    public int fault() {
        return faultPlace;
    }

    public int rule(int week, int known, int what) {
        if (!isWeek(week) || !isDay(known)) {
            return NONE;
        }
        if (within(what, NEED_RULE, FINE_RULE)) {
            return decrees.setting(what, week, known);
        }
        if (what == 4) {
            return decrees.inForce(week, known);
        }
        return within(what, 10, 9 + GOODS) ? priceOf(what - 10, week, known) : NONE;
    }

    public int card(int house, int week, int good, int known) {
        House home = houseAt(house);
        if (home == null || !isWeek(week) || !isGood(good) || !isDay(known)) {
            return NONE;
        }
        return cardKnown(home, week, good, known);
    }

    public int quota(int farm, int week, int good, int known) {
        Farm yard = farmAt(farm);
        if (yard == null || !isWeek(week) || !isGood(good) || !isDay(known)) {
            return NONE;
        }
        return quotaOf(yard, farm, week, good, known);
    }

    private int cardKnown(House home, int week, int good, int known) {
        return cardFor(home, home.mouthsKnown(week * WEEK_DAYS, known), week, good, known);
    }

    private int cardFor(House home, int mouths, int week, int good, int known) {
        decrees.nameAll(mouths, home.kin == NONE ? 0 : 1, home.town, week, 0);
        return decrees.graded(Decrees.CARD, good, known, 0, 99);
    }

    private int quotaOf(Farm yard, int farm, int week, int good, int known) {
        decrees.nameAll(0, 0, yard.town, week, cropped(farm, week, good));
        return decrees.graded(Decrees.QUOTA, good, known, 0, 999999);
    }

    private int priceOf(int good, int week, int known) {
        decrees.nameAll(0, 0, 0, week, 0);
        return decrees.graded(Decrees.PRICE, good, known, 10, 9999);
    }

    private int priceNow(int good) {
        return priceOf(good, thisWeek(), today);
    }

    private int settingNow(int which) {
        return decrees.setting(which, thisWeek(), today);
    }

    // ---- lots

    public int crop(int farm, int good, int pieces) {
        if (farmAt(farm) == null || !isGood(good) || !within(pieces, 1, MOST_CROP) || lotCount >= MOST_LOTS) {
            return NONE;
        }
        Lot lot = new Lot(lotCount, null, good, pieces, today);
        lot.bring(FARM_HOLDERS + farm, CROP, 0);
        return keepLot(lot);
    }

    public int deliver(int lot, int pieces) {
        Lot source = lotAt(lot);
        Farm yard = source == null ? null : farmAt(source.holder - FARM_HOLDERS);
        if (yard == null || !canHandOn(source, pieces)) {
            return NONE;
        }
        // 9,999 pieces at 9,999 coins are the most, so an int holds it.
        int paid = priceNow(source.good) * pieces;
        yard.coins += paid;
        return handOn(source, pieces, SHOP_HOLDERS + yard.town, DELIVERED, paid);
    }

    public long buy(int house, int good, int pieces, boolean forged) {
        House home = houseAt(house);
        if (home == null || !isGood(good) || pieces < 1) {
            return NONE;
        }
        int shop = SHOP_HOLDERS + home.town;
        if (pieces > piecesHeld(shop, good)) {
            return -2;
        }
        if (!forged && pieces > ticketsLeft(home, good)) {
            return -3;
        }
        int price = priceNow(good);
        long due = (long) price * pieces;
        if (due > home.coins) {
            return -4;
        }
        if (partsOf(shop, good, pieces) > MOST_LOTS - lotCount) {
            return -5;
        }
        home.coins -= due;
        home.forged += forged ? pieces : 0;
        takeParts(home, good, pieces, price, forged);
        return due;
    }

    public int deal(int lot, int pieces, int to, int coins) {
        Lot source = lotAt(lot);
        if (source == null || !hasPurse(source.holder) || !hasPurse(to) || to == source.holder) {
            return NONE;
        }
        if (!within(coins, 0, MOST_PURSE) || coins > purseOf(to) || !canHandOn(source, pieces)) {
            return NONE;
        }
        addToPurse(to, -coins);
        addToPurse(source.holder, coins);
        return handOn(source, pieces, to, DEALT, coins);
    }

    public int parcel(int lot, int pieces, int house) {
        Lot source = lotAt(lot);
        House home = houseAt(house);
        if (source == null || home == null || home.kin == NONE || source.holder != FARM_HOLDERS + home.kin) {
            return NONE;
        }
        if (!canHandOn(source, pieces) || parcelled(home, thisWeek()) + pieces > settingNow(PARCEL_RULE)) {
            return NONE;
        }
        return handOn(source, pieces, house, PARCEL, 0);
    }

    public int seize(int lot) {
        Lot source = lotAt(lot);
        if (source == null || !hasPurse(source.holder) || !canHandOn(source, source.pieces)) {
            return NONE;
        }
        long fine = Math.min(settingNow(FINE_RULE), purseOf(source.holder));
        addToPurse(source.holder, -fine);
        return handOn(source, source.pieces, POLICE, SEIZED, 0);
    }

    private boolean canHandOn(Lot source, int pieces) {
        return pieces >= 1 && pieces <= source.pieces && lotCount < MOST_LOTS;
    }

    private int handOn(Lot source, int pieces, int holder, int way, int coins) {
        source.pieces -= pieces;
        Lot lot = new Lot(lotCount, source, source.good, pieces, today);
        lot.bring(holder, way, coins);
        return keepLot(lot);
    }

    private int keepLot(Lot lot) {
        if (lotCount >= MOST_LOTS) {
            return NONE;
        }
        lots[lotCount] = lot;
        lotCount++;
        House home = houseAt(lot.holder);
        if (home != null) {
            home.chain(lot);
        }
        return lot.number;
    }

    private int piecesHeld(int holder, int good) {
        int pieces = 0;
        for (int k = 0; k < lotCount; k++) {
            pieces += lots[k].isOf(holder, good) ? lots[k].pieces : 0;
        }
        return pieces;
    }

    private int ticketsLeft(House home, int good) {
        int week = thisWeek();
        return cardKnown(home, week, good, today) - boughtOnTickets(home, week, good);
    }

    /** How many LOTS of a SHOP a purchase takes from. */
    private int partsOf(int shop, int good, int pieces) {
        int parts = 0;
        int left = pieces;
        Lot last = null;
        for (int k = 0; k < MOST_LOTS && left > 0; k++) {
            last = oldestBehind(last, shop, good);
            if (last == null) {
                return parts;
            }
            left -= last.pieces;
            parts++;
        }
        return parts;
    }

    private void takeParts(House home, int good, int pieces, int price, boolean forged) {
        int shop = SHOP_HOLDERS + home.town;
        int left = pieces;
        for (int k = 0; k < MOST_LOTS && left > 0; k++) {
            Lot source = oldestBehind(null, shop, good);
            if (source == null) {
                return;
            }
            int part = Math.min(left, source.pieces);
            int number = handOn(source, part, home.number, BOUGHT, price * part);
            Lot made = lotAt(number);
            if (made != null) {
                made.forged = forged;
            }
            left -= part;
        }
    }

    /** Of a holder's LOTS with pieces the one BORN first of those behind another one (null: of all). */
    private Lot oldestBehind(Lot last, int holder, int good) {
        int bound = last == null ? NONE : last.ageRank();
        Lot best = null;
        for (int k = 0; k < lotCount; k++) {
            Lot lot = lots[k];
            boolean fits = lot.isOf(holder, good) && lot.pieces > 0 && lot.ageRank() > bound;
            if (fits && (best == null || lot.ageRank() < best.ageRank())) {
                best = lot;
            }
        }
        return best;
    }

    // ---- days

    public int pass(int n) {
        if (!within(n, 1, 60) || n > DAYS - 1 - today) {
            return NONE;
        }
        for (int k = 0; k < n; k++) {
            int need = settingNow(NEED_RULE);
            int ill = settingNow(ILL_RULE);
            for (int h = 0; h < houseCount; h++) {
                feedHouse(houses[h], need, ill);
            }
            spoilLots();
            today++;
        }
        return today;
    }

    private void feedHouse(House home, int need, int ill) {
        int wanted = need * home.mouthsOn(today);
        int left = wanted;
        for (int k = 0; k < MOST_LOTS && left > 0; k++) {
            Lot meal = nextMeal(home);
            int size = meal == null ? 0 : measures[meal.good];
            if (size < 1) {
                break;
            }
            int pieces = Math.min((left + size - 1) / size, meal.pieces);
            meal.pieces -= pieces;
            meal.eaten += pieces;
            home.eat(pieces * size, meal.way == PARCEL);
            left -= pieces * size;
        }
        home.endDay(today, Math.max(left, 0), wanted, ill);
    }

    /** The LOT that a HOUSE eats of next: the one that spoils first, then the least number. */
    private Lot nextMeal(House home) {
        Lot best = null;
        int bestDay = 0;
        for (Lot lot = home.firstLot; lot != null; lot = lot.next) {
            int day = lot.born + keeps[lot.good];
            boolean fits = lot.pieces > 0 && measures[lot.good] > 0;
            if (fits && (best == null || day < bestDay)) {
                best = lot;
                bestDay = day;
            }
        }
        return best;
    }

    private void spoilLots() {
        for (int k = 0; k < lotCount; k++) {
            Lot lot = lots[k];
            if (lot.born + keeps[lot.good] <= today) {
                lot.spoiled += lot.pieces;
                lot.pieces = 0;
            }
        }
    }

    // ---- what is told of lots and houses

    public int lotOf(int lot, int what) {
        Lot asked = lotAt(lot);
        return asked == null ? NONE : asked.tell(what);
    }

    public int led(int lot, int what) {
        Lot asked = lotAt(lot);
        if (asked == null || asked.way != CROP || !within(what, 0, 5)) {
            return NONE;
        }
        int pieces = 0;
        for (int k = lot; k < lotCount; k++) {
            if (lots[k].root == lot) {
                pieces += lots[k].ledTo(what);
            }
        }
        return pieces;
    }

    public long coins(int holder) {
        return hasPurse(holder) ? purseOf(holder) : NONE;
    }

    public long houseOf(int house, int what) {
        House home = houseAt(house);
        return home == null ? NONE : home.tell(what);
    }

    public int lack(int house, int day) {
        House home = houseAt(house);
        if (home == null || !isDay(day) || day >= today) {
            return NONE;
        }
        return home.lackOn(day);
    }

    private boolean hasPurse(int holder) {
        return houseAt(holder) != null || farmAt(holder - FARM_HOLDERS) != null;
    }

    private long purseOf(int holder) {
        House home = houseAt(holder);
        if (home != null) {
            return home.coins;
        }
        Farm yard = farmAt(holder - FARM_HOLDERS);
        return yard == null ? 0 : yard.coins;
    }

    private void addToPurse(int holder, long coins) {
        House home = houseAt(holder);
        if (home != null) {
            home.coins += coins;
            return;
        }
        Farm yard = farmAt(holder - FARM_HOLDERS);
        if (yard != null) {
            yard.coins += coins;
        }
    }

    // ---- the office

    public int fake(int town, int week, int good, int known) {
        if (!isTown(town) || !isWeek(week) || !isGood(good) || !isDay(known)) {
            return NONE;
        }
        int left = boughtIn(town, week, good);
        for (int h = 0; h < houseCount; h++) {
            left -= houses[h].town == town ? cardKnown(houses[h], week, good, known) : 0;
        }
        return Math.max(left, 0);
    }

    public int dead(int house, int week, int good) {
        House home = houseAt(house);
        if (home == null || !isWeek(week) || !isGood(good)) {
            return NONE;
        }
        int due = cardFor(home, home.mouthsOn(week * WEEK_DAYS), week, good, today);
        return Math.max(boughtOnTickets(home, week, good) - due, 0);
    }

    public int shortOf(int farm, int week, int good, int known) {
        Farm yard = farmAt(farm);
        if (yard == null || !isWeek(week) || !isGood(good) || !isDay(known)) {
            return NONE;
        }
        int due = quotaOf(yard, farm, week, good, known);
        return Math.max(due - delivered(farm, good, week, week), 0);
    }

    public boolean field(int farm, int good, int from, int to) {
        Farm yard = farmAt(farm);
        boolean told = yard != null && isGood(good) && within(from, 0, MOST_CROP) && within(to, from, MOST_CROP);
        if (told) {
            yard.least[good] = from;
            yard.most[good] = to;
        }
        return told;
    }

    public int elsewhere(int farm, int good, int a, int b, int what) {
        Farm yard = farmAt(farm);
        if (yard == null || !isGood(good) || !isWeek(a) || !isWeek(b) || a > b || !within(what, 0, 1)) {
            return NONE;
        }
        int weekly = what == 0 ? yard.least[good] : yard.most[good];
        return Math.max(weekly * (b - a + 1) - delivered(farm, good, a, b), 0);
    }

    private int boughtIn(int town, int week, int good) {
        int pieces = 0;
        for (int k = 0; k < lotCount; k++) {
            Lot lot = lots[k];
            boolean there = lot.way == BOUGHT && lot.giver == SHOP_HOLDERS + town;
            pieces += there && lot.good == good && lot.week() == week ? lot.first : 0;
        }
        return pieces;
    }

    private int boughtOnTickets(House home, int week, int good) {
        int pieces = 0;
        for (Lot lot = home.firstLot; lot != null; lot = lot.next) {
            boolean onTickets = lot.way == BOUGHT && !lot.forged;
            pieces += onTickets && lot.good == good && lot.week() == week ? lot.first : 0;
        }
        return pieces;
    }

    private int parcelled(House home, int week) {
        int pieces = 0;
        for (Lot lot = home.firstLot; lot != null; lot = lot.next) {
            pieces += lot.way == PARCEL && lot.week() == week ? lot.first : 0;
        }
        return pieces;
    }

    private int delivered(int farm, int good, int a, int b) {
        int pieces = 0;
        for (int k = 0; k < lotCount; k++) {
            Lot lot = lots[k];
            boolean from = lot.way == DELIVERED && lot.giver == FARM_HOLDERS + farm;
            pieces += from && lot.good == good && within(lot.week(), a, b) ? lot.first : 0;
        }
        return pieces;
    }

    private int cropped(int farm, int week, int good) {
        int pieces = 0;
        for (int k = 0; k < lotCount; k++) {
            Lot lot = lots[k];
            boolean there = lot.way == CROP && lot.isOf(FARM_HOLDERS + farm, good);
            pieces += there && lot.week() == week ? lot.first : 0;
        }
        return pieces;
    }

    // ---- exchange, roads

    public boolean exchange(int from, int to, int take, int give) {
        boolean told = isDesk(from) && isDesk(to) && from != to && within(take, 1, 99) && within(give, 0, 99);
        if (told) {
            desks.tell(from, to, take, give);
        }
        return told;
    }

    public int round(int desk, int what) {
        if (!isDesk(desk) || !desks.findRound(desk)) {
            return NONE;
        }
        return desks.tellRound(what);
    }

    public boolean road(int a, int b, int miles) {
        boolean told = isPlace(a) && isPlace(b) && a != b && within(miles, 0, 99);
        if (told) {
            roads.lay(a, b, miles);
        }
        return told;
    }

    public int post(int a, int b, int m, int r) {
        boolean told = isPlace(a) && isPlace(b) && a != b && within(m, 1, 9) && within(r, 0, m - 1);
        return told ? roads.setPost(a, b, m, r) : NONE;
    }

    public int way(int day, int from, int to, int what) {
        if (!isDay(day) || !isPlace(from) || !isPlace(to) || !within(what, 0, 1)) {
            return NONE;
        }
        return roads.shortest(day, from, to, what);
    }

    // ---- plans

    public int plan(int town, int weeks, int stock, int what) {
        boolean asked = within(what, 0, 1) || within(what, 10, 9 + weeks);
        if (!isPlan(town, weeks, stock) || !asked) {
            return NONE;
        }
        preparePlan(town);
        if (!planner.solve(weeks, stock)) {
            return NONE;
        }
        return what < 10 ? planner.tell(what, stock) : planner.digit(weeks, what - 10);
    }

    public int judge(int town, int weeks, int stock, int row, int what) {
        if (!isPlan(town, weeks, stock) || !within(what, 0, 1) || !within(row, 0, (1 << (2 * weeks)) - 1)) {
            return NONE;
        }
        preparePlan(town);
        planner.weigh(weeks, row);
        return planner.spent <= stock ? planner.tell(what, stock) : NONE;
    }

    private boolean isPlan(int town, int weeks, int stock) {
        return isTown(town) && within(weeks, 1, MOST_WEEKS_PLANNED) && within(stock, 0, MOST_STOCK);
    }

    private void preparePlan(int town) {
        planner.clear();
        int need = settingNow(NEED_RULE);
        long ill = settingNow(ILL_RULE);
        for (int h = 0; h < houseCount; h++) {
            if (houses[h].town == town) {
                int daily = need * houses[h].mouthsOn(today);
                planner.add(daily, houses[h].garden, ill * daily);
            }
        }
    }

    // ---- counts

    public int count(int what) {
        switch (what) {
            case 0: return today;
            case 1: return houseCount;
            case 2: return farmCount;
            case 3: return lotCount;
            case 4: return decrees.size;
            case 5: return livingInAll();
            case 6: return diedInAll();
            case 7: return roads.posts;
            case 8: return piecesInAll();
            case 9: return taped;
            default: return NONE;
        }
    }

    private int livingInAll() {
        int living = 0;
        for (int h = 0; h < houseCount; h++) {
            living += houses[h].living();
        }
        return living;
    }

    private int diedInAll() {
        int died = 0;
        for (int h = 0; h < houseCount; h++) {
            died += houses[h].deaths;
        }
        return died;
    }

    private int piecesInAll() {
        int pieces = 0;
        for (int k = 0; k < lotCount; k++) {
            pieces += lots[k].pieces;
        }
        return pieces;
    }

    // ---- bounds

    private static boolean within(int value, int least, int most) {
        return value >= least && value <= most;
    }

    private static boolean isDay(int day) {
        return within(day, 0, DAYS - 1);
    }

    private static boolean isWeek(int week) {
        return within(week, 0, WEEKS - 1);
    }

    private static boolean isGood(int good) {
        return within(good, 0, GOODS - 1);
    }

    private static boolean isTown(int town) {
        return within(town, 0, TOWNS - 1);
    }

    private static boolean isPlace(int place) {
        return within(place, 0, PLACES - 1);
    }

    private static boolean isDesk(int desk) {
        return within(desk, 0, Desks.ALL - 1);
    }

    private int thisWeek() {
        return today / WEEK_DAYS;
    }

    private House houseAt(int number) {
        return within(number, 0, houseCount - 1) ? houses[number] : null;
    }

    private Farm farmAt(int number) {
        return within(number, 0, farmCount - 1) ? farms[number] : null;
    }

    private Lot lotAt(int number) {
        return within(number, 0, lotCount - 1) ? lots[number] : null;
    }

    // ---- what the books are made of

    private static final class House {
        private static final int UNHEARD = DAYS;

        final int number;
        final int town;
        final int kin;
        final int garden;
        final int mouthsAtFirst;
        long coins;
        final int[] diedOn = new int[MOST_MOUTHS];
        final int[] heardOn = new int[MOST_MOUTHS];
        int deaths = 0;
        final int[] lacks = new int[DAYS];
        long eaten = 0;
        long eatenOfParcels = 0;
        long lackEver = 0;
        int illDays = 0;
        long forged = 0;
        Lot firstLot = null;
        Lot lastLot = null;

        House(int number, int town, int mouths, int coins, int kin, int garden) {
            this.number = number;
            this.town = town;
            this.mouthsAtFirst = mouths;
            this.coins = coins;
            this.kin = kin;
            this.garden = garden;
        }

        int living() {
            return mouthsAtFirst - deaths;
        }

        boolean loseMouth(int day) {
            if (living() <= 1 || deaths >= MOST_MOUTHS) {
                return false;
            }
            diedOn[deaths] = day;
            heardOn[deaths] = UNHEARD;
            deaths++;
            return true;
        }

        int tellDeaths(int day) {
            int fresh = 0;
            for (int k = 0; k < deaths; k++) {
                if (heardOn[k] == UNHEARD) {
                    heardOn[k] = day;
                    fresh++;
                }
            }
            return fresh;
        }

        int mouthsOn(int day) {
            return mouthsKnown(day, UNHEARD);
        }

        int mouthsKnown(int day, int known) {
            int mouths = mouthsAtFirst;
            for (int k = 0; k < deaths; k++) {
                if (diedOn[k] <= day && heardOn[k] <= known) {
                    mouths--;
                }
            }
            return mouths;
        }

        void chain(Lot lot) {
            if (lastLot == null) {
                firstLot = lot;
            } else {
                lastLot.next = lot;
            }
            lastLot = lot;
        }

        void eat(int measures, boolean ofParcel) {
            eaten += measures;
            eatenOfParcels += ofParcel ? measures : 0;
        }

        void endDay(int day, int lack, int wanted, int ill) {
            if (!isDay(day)) {
                return;
            }
            lacks[day] = lack;
            lackEver += lack;
            long lately = 0;
            for (int d = Math.max(day - WEEK_DAYS + 1, 0); d <= day; d++) {
                lately += lacks[d];
            }
            illDays += lately * 100 > (long) ill * wanted ? 1 : 0;
        }

        int lackOn(int day) {
            return isDay(day) ? lacks[day] : NONE;
        }

        int piecesNow() {
            int pieces = 0;
            for (Lot lot = firstLot; lot != null; lot = lot.next) {
                pieces += lot.pieces;
            }
            return pieces;
        }

        long tell(int what) {
            switch (what) {
                case 0: return piecesNow();
                case 1: return eaten;
                case 2: return lackEver;
                case 3: return illDays;
                case 4: return lackEver + eatenOfParcels;
                case 5: return forged;
                default: return NONE;
            }
        }
    }

    private static final class Farm {
        final int town;
        long coins = 0;
        final int[] least = new int[GOODS];
        final int[] most = new int[GOODS];

        Farm(int town) {
            this.town = town;
        }
    }

    private static final class Lot {
        final int number;
        final int good;
        final int first;
        final int born;
        /** The DAY on which it was handed to its HOLDER. */
        final int day;
        final int source;
        final int giver;
        final int root;
        final int hands;
        int pieces;
        int holder = NONE;
        int way = CROP;
        int coins = 0;
        int eaten = 0;
        int spoiled = 0;
        boolean forged = false;
        /** The next LOT of the same HOUSE. */
        Lot next = null;

        /** A LOT from another one; from is null for a crop. */
        Lot(int number, Lot from, int good, int pieces, int day) {
            this.number = number;
            this.good = good;
            this.first = pieces;
            this.pieces = pieces;
            this.day = day;
            this.born = from == null ? day : from.born;
            this.source = from == null ? NONE : from.number;
            this.giver = from == null ? NONE : from.holder;
            this.root = from == null ? number : from.root;
            this.hands = from == null ? 0 : from.hands + 1;
        }

        void bring(int holder, int way, int coins) {
            this.holder = holder;
            this.way = way;
            this.coins = coins;
        }

        boolean isOf(int holder, int good) {
            return this.holder == holder && this.good == good;
        }

        int week() {
            return day / WEEK_DAYS;
        }

        int ageRank() {
            return born * MOST_LOTS + number;
        }

        int ledTo(int what) {
            if (what == 4) {
                return eaten;
            }
            if (what == 5) {
                return spoiled;
            }
            return what == holderKind() ? pieces : 0;
        }

        private int holderKind() {
            if (holder < FARM_HOLDERS) {
                return 2;
            }
            if (holder < SHOP_HOLDERS) {
                return 0;
            }
            return holder < POLICE ? 1 : 3;
        }

        int tell(int what) {
            switch (what) {
                case 0: return good;
                case 1: return pieces;
                case 2: return holder;
                case 3: return source;
                case 4: return way;
                case 5: return coins;
                case 6: return born;
                case 7: return eaten;
                case 8: return spoiled;
                case 9: return first;
                case 10: return hands;
                default: return NONE;
            }
        }
    }

    /** One rule of ORDERS; of a setting only its value, else where its code and its condition's stand. */
    private static final class Statement {
        final int kind;
        final int subject;
        final int from;
        final int middle;
        final int to;

        /** subject: the GOOD, or a setting's value; the condition stands from middle to to. */
        Statement(int kind, int subject, int from, int middle, int to) {
            this.kind = kind;
            this.subject = subject;
            this.from = from;
            this.middle = middle;
            this.to = to;
        }
    }

    private static final class Orders {
        final int told;
        final int week;
        final Statement[] statements;
        final int[] code;

        Orders(Reader reader, int told, int week) {
            this.told = told;
            this.week = week;
            this.code = Arrays.copyOf(reader.code, reader.size);
            this.statements = new Statement[reader.drafted];
            for (int k = 0; k < reader.drafted; k++) {
                this.statements[k] = reader.drafts[k];
            }
        }
    }

    /** Splits a text into tokens, each as long as it goes; END stands behind the last one. */
    private static final class Lexer {
        /** Words in slots of six; a word's slot is its token's kind. */
        private static final String WORDS = "card  quota price need  ill   parcelfine  bread egg   meat  oil   roots smoke mouthskin   town  week  came  if    or    and   not   ";
        private static final int SLOT = 6;
        private static final String SIGNS = ";+-*/(){}<>=";

        static final int PRICE = 2;
        static final int NEED = 3;
        static final int FINE = 6;
        static final int BREAD = 7;
        static final int MOUTHS = 13;
        static final int CAME = 17;
        static final int IF = 18;
        static final int OR = 19;
        static final int AND = 20;
        static final int NOT = 21;
        static final int NUMBER = 22;
        static final int NO_TOKEN = 23;
        static final int END = 24;
        static final int SEMICOLON = 25;
        static final int PLUS = 26;
        static final int MINUS = 27;
        static final int TIMES = 28;
        static final int DIVIDED = 29;
        static final int OPEN = 30;
        static final int CLOSE = 31;
        static final int OPEN_BRACE = 32;
        static final int CLOSE_BRACE = 33;
        static final int LESS = 34;
        static final int EQUAL = 36;

        private static final int MOST_DIGITS = 6;

        private int[] text = new int[0];
        private int length = 0;
        private int place = 0;
        final int[] kinds = new int[MOST_BYTES + 1];
        final int[] starts = new int[MOST_BYTES + 1];
        final int[] values = new int[MOST_BYTES + 1];
        int size = 0;

        Lexer() {
        }

        void split(int[] bytes, int n) {
            text = bytes;
            length = Math.min(n, Math.min(bytes.length, MOST_BYTES));
            place = 0;
            size = 0;
            // Each round goes on by a byte at least.
            for (int round = 0; round < MOST_BYTES && place < length; round++) {
                int sign = text[place];
                if (isLetter(sign)) {
                    splitWord();
                } else if (isDigit(sign)) {
                    splitNumber();
                } else if (sign == 32 || sign == 10) {
                    place++;
                } else {
                    splitSign(SIGNS.indexOf((char) sign));
                }
            }
            put(END, length, 0);
        }

        private void splitSign(int sign) {
            put(sign < 0 ? NO_TOKEN : SEMICOLON + sign, place, 0);
            place++;
        }

        private void splitWord() {
            int start = place;
            while (place < length && isLetter(text[place])) {
                place++;
            }
            int kind = NO_TOKEN;
            for (int word = 0; word <= NOT && kind == NO_TOKEN; word++) {
                if (isWord(word, start)) {
                    kind = word;
                }
            }
            put(kind, start, 0);
        }

        private boolean isWord(int word, int start) {
            int letters = place - start;
            if (letters > SLOT) {
                return false;
            }
            for (int k = 0; k < SLOT; k++) {
                int there = k < letters ? text[start + k] : ' ';
                if (WORDS.charAt(word * SLOT + k) != there) {
                    return false;
                }
            }
            return true;
        }

        private void splitNumber() {
            int start = place;
            int value = 0;
            while (place < length && isDigit(text[place])) {
                if (place - start < MOST_DIGITS) {
                    value = value * 10 + text[place] - '0';
                }
                place++;
            }
            put(place - start <= MOST_DIGITS ? NUMBER : NO_TOKEN, start, value);
        }

        private void put(int kind, int start, int value) {
            if (size < kinds.length) {
                kinds[size] = kind;
                starts[size] = start;
                values[size] = value;
                size++;
            }
        }

        private static boolean isLetter(int sign) {
            return sign >= 'a' && sign <= 'z';
        }

        private static boolean isDigit(int sign) {
            return sign >= '0' && sign <= '9';
        }
    }

    /** Reads ORDERS; what they reckon is laid down as code for Decrees, operands first. */
    private static final class Reader {
        private static final int MOST_OPEN = 9;
        private static final int MOST_STATEMENTS = 24;

        private final Lexer lexer = new Lexer();
        private int next = 0;
        private int kind = Lexer.END;
        private int value = 0;
        /** Where the token stands that is looked at: behind a refusal the FAULT's place. */
        int start = 0;
        final int[] code = new int[MOST_BYTES];
        int size = 0;
        final Statement[] drafts = new Statement[MOST_STATEMENTS];
        int drafted = 0;

        Reader() {
        }

        boolean read(int[] bytes, int n) {
            lexer.split(bytes, n);
            size = 0;
            drafted = 0;
            next = 0;
            step();
            for (int k = 0; k < MOST_STATEMENTS && kind != Lexer.END; k++) {
                if (!statement()) {
                    return false;
                }
            }
            return kind == Lexer.END;
        }

        private boolean statement() {
            int head = kind;
            if (head > Lexer.FINE) {
                return false;
            }
            step();
            boolean fits = head <= Lexer.PRICE ? gradedRule(head) : settingRule(head);
            return fits && took(Lexer.SEMICOLON);
        }

        private boolean gradedRule(int head) {
            int which = kind - Lexer.BREAD;
            if (!isGood(which)) {
                return false;
            }
            step();
            int from = size;
            if (!sum(0)) {
                return false;
            }
            int middle = size;
            if (took(Lexer.IF) && !anyOf(0)) {
                return false;
            }
            draft(new Statement(head, which, from, middle, size));
            return true;
        }

        private boolean settingRule(int head) {
            if (kind != Lexer.NUMBER || head == Lexer.NEED && value < 1) {
                return false;
            }
            draft(new Statement(head, value, size, size, size));
            step();
            return true;
        }

        private boolean sum(int depth) {
            if (!product(depth)) {
                return false;
            }
            for (int k = 0; k < MOST_BYTES && (kind == Lexer.PLUS || kind == Lexer.MINUS); k++) {
                int op = kind == Lexer.PLUS ? Decrees.ADD : Decrees.SUBTRACT;
                step();
                if (!product(depth)) {
                    return false;
                }
                lay(op);
            }
            return true;
        }

        private boolean product(int depth) {
            if (!atom(depth)) {
                return false;
            }
            for (int k = 0; k < MOST_BYTES && (kind == Lexer.TIMES || kind == Lexer.DIVIDED); k++) {
                int op = kind == Lexer.TIMES ? Decrees.MULTIPLY : Decrees.DIVIDE;
                step();
                if (!atom(depth)) {
                    return false;
                }
                lay(op);
            }
            return true;
        }

        private boolean atom(int depth) {
            if (kind == Lexer.OPEN && depth < MOST_OPEN) {
                step();
                return sum(depth + 1) && took(Lexer.CLOSE);
            }
            if (kind == Lexer.NUMBER) {
                lay(value);
            } else if (kind >= Lexer.MOUTHS && kind <= Lexer.CAME) {
                lay(Decrees.FIRST_NAME - (kind - Lexer.MOUTHS));
            } else {
                return false;
            }
            step();
            return true;
        }

        private boolean anyOf(int depth) {
            if (!allOf(depth)) {
                return false;
            }
            for (int k = 0; k < MOST_BYTES && kind == Lexer.OR; k++) {
                step();
                if (!allOf(depth)) {
                    return false;
                }
                lay(Decrees.EITHER);
            }
            return true;
        }

        private boolean allOf(int depth) {
            if (!one(depth)) {
                return false;
            }
            for (int k = 0; k < MOST_BYTES && kind == Lexer.AND; k++) {
                step();
                if (!one(depth)) {
                    return false;
                }
                lay(Decrees.BOTH);
            }
            return true;
        }

        private boolean one(int depth) {
            if (kind == Lexer.NOT) {
                return depth < MOST_OPEN && denied(depth + 1);
            }
            if (kind == Lexer.OPEN_BRACE) {
                return depth < MOST_OPEN && braced(depth + 1);
            }
            if (!sum(depth) || kind < Lexer.LESS || kind > Lexer.EQUAL) {
                return false;
            }
            int op = Decrees.BELOW - (kind - Lexer.LESS);
            step();
            if (!sum(depth)) {
                return false;
            }
            lay(op);
            return true;
        }

        private boolean denied(int depth) {
            step();
            if (!one(depth)) {
                return false;
            }
            lay(Decrees.DENY);
            return true;
        }

        private boolean braced(int depth) {
            step();
            return anyOf(depth) && took(Lexer.CLOSE_BRACE);
        }

        private boolean took(int wanted) {
            if (kind != wanted) {
                return false;
            }
            step();
            return true;
        }

        /** Looks at the next token; END, the last one, is not gone by. */
        private void step() {
            if (next >= 0 && next < lexer.size) {
                kind = lexer.kinds[next];
                value = lexer.values[next];
                start = lexer.starts[next];
                next++;
            }
        }

        /** Each piece of code has a token of its own, so the tape's bound holds for the code too. */
        private void lay(int op) {
            if (size < code.length) {
                code[size] = op;
                size++;
            }
        }

        private void draft(Statement statement) {
            if (drafted < MOST_STATEMENTS) {
                drafts[drafted] = statement;
                drafted++;
            }
        }
    }

    /** All ORDERS told, which of them are in force, and what they reckon. */
    private static final class Decrees {
        static final int CARD = 0;
        static final int QUOTA = 1;
        static final int PRICE = 2;
        static final int FIRST_SETTING = 3;
        private static final int[] SETTINGS = {1000, 300, 5, 50};

        // Code: a number from 0 on stands for itself, the names go down from FIRST_NAME.
        static final int FIRST_NAME = -1;
        private static final int LAST_NAME = -5;
        static final int DENY = -6;
        static final int ADD = -7;
        static final int SUBTRACT = -8;
        static final int MULTIPLY = -9;
        static final int DIVIDE = -10;
        static final int BELOW = -11;
        static final int ABOVE = -12;
        static final int SAME = -13;
        static final int BOTH = -14;
        static final int EITHER = -15;

        private static final int WEEK_NAME = 3;
        private static final long HOLD = 1000000000L;

        private final Orders[] all = new Orders[MOST_ORDERS];
        int size = 0;
        private final int[] names = new int[5];
        /** Nine open in one another leave at most two values behind each, so this is ample. */
        private final int[] stack = new int[64];

        Decrees() {
        }

        int keep(Orders orders) {
            if (size >= MOST_ORDERS) {
                return NONE;
            }
            all[size] = orders;
            size++;
            return size - 1;
        }

        int inForce(int week, int known) {
            int best = NONE;
            int bestWeek = NONE;
            for (int k = 0; k < size; k++) {
                Orders orders = all[k];
                if (orders.told <= known && orders.week <= week && orders.week >= bestWeek) {
                    best = k;
                    bestWeek = orders.week;
                }
            }
            return best;
        }

        private Orders ordersAt(int number) {
            return within(number, 0, size - 1) ? all[number] : null;
        }

        int setting(int which, int week, int known) {
            if (!within(which, 0, SETTINGS.length - 1)) {
                return NONE;
            }
            int value = SETTINGS[which];
            Orders orders = ordersAt(inForce(week, known));
            if (orders == null) {
                return value;
            }
            for (int k = 0; k < orders.statements.length; k++) {
                if (orders.statements[k].kind == FIRST_SETTING + which) {
                    value = orders.statements[k].subject;
                }
            }
            return value;
        }

        /** What the names stand for in the next graded(). */
        void nameAll(int mouths, int kin, int town, int week, int came) {
            names[0] = mouths;
            names[1] = kin;
            names[2] = town;
            names[WEEK_NAME] = week;
            names[4] = came;
        }

        /** By the first statement of a kind and GOOD that holds in the named WEEK, held to 0 to most. */
        int graded(int kind, int good, int known, int otherwise, int most) {
            Orders orders = ordersAt(inForce(names[WEEK_NAME], known));
            if (orders == null) {
                return otherwise;
            }
            for (int k = 0; k < orders.statements.length; k++) {
                Statement rule = orders.statements[k];
                if (rule.kind != kind || rule.subject != good) {
                    continue;
                }
                boolean isBare = rule.middle >= rule.to;
                if (isBare || reckon(orders.code, rule.middle, rule.to) != 0) {
                    int told = reckon(orders.code, rule.from, rule.middle);
                    return Math.max(0, Math.min(told, most));
                }
            }
            return otherwise;
        }

        private int reckon(int[] code, int from, int to) {
            int top = 0;
            for (int at = from; at < to && at < code.length; at++) {
                int op = code[at];
                if (op >= LAST_NAME && top < stack.length) {
                    stack[top] = op >= 0 ? op : names[FIRST_NAME - op];
                    top++;
                } else if (op == DENY && top >= 1) {
                    stack[top - 1] = 1 - stack[top - 1];
                } else if (op < DENY && top >= 2) {
                    top--;
                    long value = joined(op, stack[top - 1], stack[top]);
                    stack[top - 1] = (int) Math.max(-HOLD, Math.min(value, HOLD));
                }
            }
            return stack[0];
        }

        private static long joined(int op, long a, long b) {
            switch (op) {
                case ADD: return a + b;
                case SUBTRACT: return a - b;
                case MULTIPLY: return a * b;
                case DIVIDE: return b == 0 ? 0 : a / b;
                case BELOW: return a < b ? 1 : 0;
                case ABOVE: return a > b ? 1 : 0;
                case SAME: return a == b ? 1 : 0;
                case BOTH: return a != 0 && b != 0 ? 1 : 0;
                case EITHER: return a != 0 || b != 0 ? 1 : 0;
                default: return 0;
            }
        }
    }

    /** The desks' EXCHANGE and the ROUND last found. */
    private static final class Desks {
        static final int ALL = 12;

        private final int[] takes = new int[ALL * ALL];
        private final int[] gives = new int[ALL * ALL];
        private long bestGives = 0;
        private long bestTakes = 1;
        private int steps = 0;
        private int second = NONE;
        private int third = NONE;

        Desks() {
        }

        void tell(int from, int to, int take, int give) {
            takes[from * ALL + to] = take;
            gives[from * ALL + to] = give;
        }

        boolean findRound(int desk) {
            bestGives = 1;
            bestTakes = 1;
            steps = 0;
            for (int a = 0; a < ALL; a++) {
                weigh(desk, a, desk);
            }
            for (int a = 0; a < ALL; a++) {
                for (int b = 0; b < ALL; b++) {
                    weigh(desk, a, b);
                }
            }
            return steps > 0;
        }

        /** b is the desk itself in a round of two steps; desks alike give nothing, so such rounds fall out. */
        private void weigh(int desk, int a, int b) {
            boolean two = b == desk;
            long given = gaveBy(desk, a) * gaveBy(a, b) * (two ? 1 : gaveBy(b, desk));
            long taken = tookBy(desk, a) * tookBy(a, b) * (two ? 1 : tookBy(b, desk));
            // Only what is better counts: so the fewest steps, then the least desks stay.
            if (given * bestTakes > bestGives * taken) {
                bestGives = given;
                bestTakes = taken;
                steps = two ? 2 : 3;
                second = a;
                third = b;
            }
        }

        private long gaveBy(int from, int to) {
            return gives[from * ALL + to];
        }

        private long tookBy(int from, int to) {
            return takes[from * ALL + to];
        }

        int tellRound(int what) {
            if (what == 0) {
                return bestTakes < 1 ? NONE : (int) (bestGives * 1000 / bestTakes);
            }
            if (what == 1) {
                return steps;
            }
            if (what == 10) {
                return second;
            }
            return what == 11 && steps == 3 ? third : NONE;
        }
    }

    private static final class Roads {
        private static final int MOST_POSTS = 20;
        /** A POST's weight: no WAY has so many miles. */
        private static final int POST_WEIGHT = 10000;
        private static final int FAR = 1000000000;

        private final int[] miles = new int[PLACES * PLACES];
        private final int[] postA = new int[MOST_POSTS];
        private final int[] postB = new int[MOST_POSTS];
        private final int[] postM = new int[MOST_POSTS];
        private final int[] postR = new int[MOST_POSTS];
        int posts = 0;
        private final int[] weights = new int[PLACES * PLACES];
        private final int[] best = new int[PLACES];
        private final int[] settled = new int[PLACES];

        Roads() {
        }

        void lay(int a, int b, int length) {
            miles[a * PLACES + b] = length;
            miles[b * PLACES + a] = length;
        }

        int setPost(int a, int b, int m, int r) {
            if (posts >= MOST_POSTS) {
                return NONE;
            }
            postA[posts] = a;
            postB[posts] = b;
            postM[posts] = m;
            postR[posts] = r;
            posts++;
            return posts;
        }

        /** POSTS (what 0) or miles (1) of the best WAY; NONE. */
        int shortest(int day, int from, int to, int what) {
            weighRoads(day);
            Arrays.fill(best, FAR);
            Arrays.fill(settled, 0);
            best[from] = 0;
            for (int k = 0; k < PLACES; k++) {
                settleNearest();
            }
            if (best[to] >= FAR) {
                return NONE;
            }
            return what == 0 ? best[to] / POST_WEIGHT : best[to] % POST_WEIGHT;
        }

        private void weighRoads(int day) {
            System.arraycopy(miles, 0, weights, 0, miles.length);
            for (int p = 0; p < posts; p++) {
                int there = postA[p] * PLACES + postB[p];
                boolean stands = postM[p] > 0 && day % postM[p] == postR[p];
                if (stands && miles[there] > 0) {
                    weights[there] += POST_WEIGHT;
                    weights[postB[p] * PLACES + postA[p]] += POST_WEIGHT;
                }
            }
        }

        private void settleNearest() {
            int near = NONE;
            for (int p = 0; p < PLACES; p++) {
                if (settled[p] == 0 && best[p] < FAR && (near == NONE || best[p] < best[near])) {
                    near = p;
                }
            }
            if (near == NONE) {
                return;
            }
            settled[near] = 1;
            for (int p = 0; p < PLACES; p++) {
                int weight = weights[near * PLACES + p];
                if (weight > 0 && best[near] + weight < best[p]) {
                    best[p] = best[near] + weight;
                }
            }
        }
    }

    /** Weighs rows of a TOWN's WEEKS; who is ILL in a WEEK hangs on its digit and the one ahead alone. */
    private static final class Planner {
        private static final int DIGITS = 4;
        private static final int[] HUNDREDTHS = {40, 60, 80, 100};
        /** In place of the digit ahead of the first WEEK. */
        private static final int NO_DIGIT = 4;
        private static final int AHEADS = 5;
        private static final int WIDTH = MOST_HOUSES * MOST_WEEKS_PLANNED + 1;
        /** Above all stocks: what is given beyond them is not told apart, so an int holds it. */
        private static final int FAR = 1000000000;

        private int houses = 0;
        private final long[] given = new long[DIGITS];
        private final int[] ills = new int[AHEADS * DIGITS];
        private final long[] lacks = new long[AHEADS];
        /** The least given from a WEEK on, by the digit ahead of it, for just so many ILL from it on. */
        private final int[] least = new int[(MOST_WEEKS_PLANNED + 1) * DIGITS * WIDTH];
        private int illInAll = 0;
        long spent = 0;
        private int row = 0;

        Planner() {
        }

        void clear() {
            houses = 0;
            Arrays.fill(given, 0);
            Arrays.fill(ills, 0);
        }

        /** A HOUSE that wants so much a DAY and is ILL above a bound (of hundredths). */
        void add(int daily, int garden, long bound) {
            if (houses >= MOST_HOUSES) {
                return;
            }
            houses++;
            long full = (long) WEEK_DAYS * daily;
            for (int d = 0; d < DIGITS; d++) {
                long part = full * HUNDREDTHS[d] / 100;
                given[d] += part;
                lacks[d] = Math.max(full - part - garden, 0);
            }
            lacks[NO_DIGIT] = 0;
            for (int k = 0; k < ills.length; k++) {
                long lack = lacks[k / DIGITS] + lacks[k % DIGITS];
                ills[k] += lack * 100 > bound ? 1 : 0;
            }
        }

        int tell(int what, int stock) {
            return what == 0 ? illInAll : (int) (stock - spent);
        }

        int digit(int weeks, int week) {
            return (row >> (2 * (weeks - 1 - week))) & 3;
        }

        void weigh(int weeks, int judged) {
            row = judged;
            illInAll = 0;
            spent = 0;
            int ahead = NO_DIGIT;
            for (int week = 0; week < weeks; week++) {
                int d = digit(weeks, week);
                illInAll += ills[ahead * DIGITS + d];
                spent += given[d];
                ahead = d;
            }
        }

        /** Finds the best row; false if the stock is enough for none. */
        boolean solve(int weeks, int stock) {
            for (int d = 0; d < DIGITS; d++) {
                least[spot(weeks, d)] = 0;
            }
            for (int week = weeks - 1; week > 0; week--) {
                for (int ahead = 0; ahead < DIGITS; ahead++) {
                    fillLeast(week, ahead, houses * (weeks - week - 1));
                }
            }
            fillLeast(0, NO_DIGIT, houses * (weeks - 1));
            for (int ill = 0; ill <= houses * weeks; ill++) {
                if (least[spot(0, NO_DIGIT) + ill] <= stock) {
                    weigh(weeks, leastRow(weeks, ill));
                    return true;
                }
            }
            return false;
        }

        /** The first WEEK has NO_DIGIT ahead of it and no other: it stands where digit 0 would. */
        private static int spot(int week, int ahead) {
            return (week * DIGITS + ahead % DIGITS) * WIDTH;
        }

        /** behind: how many can be ILL in the WEEKS behind this one; so far their rows are filled. */
        private void fillLeast(int week, int ahead, int behind) {
            int here = spot(week, ahead);
            for (int ill = 0; ill <= behind + houses; ill++) {
                least[here + ill] = FAR;
            }
            for (int d = 0; d < DIGITS; d++) {
                int to = here + ills[ahead * DIGITS + d];
                int from = spot(week + 1, d);
                for (int ill = 0; ill <= behind; ill++) {
                    least[to + ill] = (int) Math.min(least[to + ill], least[from + ill] + given[d]);
                }
            }
        }

        /** Of the rows with just so many ILL and the least given the least one: its digits first to last. */
        private int leastRow(int weeks, int ill) {
            int found = 0;
            int ahead = NO_DIGIT;
            int left = ill;
            for (int week = 0; week < weeks; week++) {
                int d = leastDigit(week, ahead, left, houses * (weeks - week - 1));
                left = Math.max(left - ills[ahead * DIGITS + d], 0);
                ahead = d;
                found = found * DIGITS + d;
            }
            return found;
        }

        private int leastDigit(int week, int ahead, int ill, int behind) {
            int due = least[spot(week, ahead) + ill];
            for (int d = 0; d < DIGITS - 1; d++) {
                int left = ill - ills[ahead * DIGITS + d];
                if (within(left, 0, behind) && least[spot(week + 1, d) + left] + given[d] == due) {
                    return d;
                }
            }
            return DIGITS - 1;
        }
    }
}
