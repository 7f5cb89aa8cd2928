/** An inn where each dish has two ways to be eaten, and each way leads to a town. */
public final class ForkInn {
    private static final int LOW = -1000001;
    private static final int BEYOND = LOW;
    private static final int FULL = LOW - 1;
    private static final int OTHER_KIND = LOW - 2;
    private static final int NONE = LOW - 3;
    private static final int STATE = LOW - 4;
    private static final int MISSING = LOW - 5;
    private static final int SIZE = LOW - 6;
    private static final int FINDINGS = 7;

    private static final int MOST_DAYS_AT_ONCE = 60;
    private static final int MOST_DAYS_AHEAD = 100;
    private static final int MOST_DAYS_SOUGHT = 200;
    private static final int MOST_DAYS_STRUCK = 20;
    private static final int MOST_DRAWN_MEALS = 20;
    private static final int MOST_COURSES = 4;
    private static final int MOST_DRAWN_BENTS = 9;
    private static final int ABOVE_ALL_BILLS = 1000000;
    private static final int BENTS = 100;
    private static final int SHEETS = 4;
    private static final int ANY_TOWN = -1;
    private static final int NOTHING = -1;

    private final Inn inn;
    private final Inn kept;
    /** What the questions let days go by in; it is made once, since each call may need one. */
    private final Inn trial;
    private final Tape tape;
    private final Sheet[] sheets;
    private final int[] findings;
    private boolean imageKept;

    public ForkInn() {
        inn = new Inn();
        kept = new Inn();
        trial = new Inn();
        tape = new Tape();
        sheets = new Sheet[SHEETS];
        for (int s = 0; s < SHEETS; s++) {
            sheets[s] = new Sheet();
        }
        findings = new int[FINDINGS];
        imageKept = false;
    }

    // ---- inn

    public int list(int i, int guest, int dish) {
        if (!isPlace(i) || !within(guest, 0, Inn.MOST_GUESTS - 1) || !within(dish, 0, Inn.MOST_DISHES - 1)) {
            return found(BEYOND);
        }
        int was = inn.meals[i];
        inn.planMeal(i, guest, dish);
        return was;
    }

    public int listed(int i) {
        if (!isPlace(i)) {
            return found(BEYOND);
        }
        return inn.meals[i];
    }

    public int dish(int kind, int left, int right) {
        if (!isKind(kind) || !isTown(left) || !isTown(right)) {
            return found(BEYOND);
        }
        if (inn.dishCount >= Inn.MOST_DISHES) {
            return found(FULL);
        }
        return inn.addDish(kind, left, right);
    }

    public int guest(int bent) {
        if (!isBent(bent)) {
            return found(BEYOND);
        }
        if (inn.guestCount >= Inn.MOST_GUESTS) {
            return found(FULL);
        }
        return inn.addGuest(bent);
    }

    public int of(int dish, int what) {
        if (!inn.isDish(dish) || !within(what, 0, Inn.DISH_FACTS - 1)) {
            return found(BEYOND);
        }
        return inn.dishFact(dish, what);
    }

    public int change(int dish, int what, int v) {
        if (!inn.isDish(dish) || !within(what, 0, Inn.DISH_FACTS - 1) || !within(v, 0, Inn.DISH_TOPS[what])) {
            return found(BEYOND);
        }
        int was = inn.dishFact(dish, what);
        inn.putDishFact(dish, what, v);
        return was;
    }

    public int ofGuest(int guest, int what) {
        if (!inn.isGuest(guest) || !isGuestFact(what)) {
            return found(BEYOND);
        }
        return inn.guestFact(guest, what);
    }

    public int seat(int guest, int what, int v) {
        if (!inn.isGuest(guest) || !isGuestFact(what) || !within(v, 0, Inn.GUEST_TOPS[what])) {
            return found(BEYOND);
        }
        int was = inn.guestFact(guest, what);
        inn.putGuestFact(guest, what, v);
        return was;
    }

    public int would(int guest, int dish, int what) {
        if (!inn.isGuest(guest) || !inn.isDish(dish) || !within(what, 0, 3)) {
            return found(BEYOND);
        }
        boolean byLeft = inn.takesLeft(guest, dish);
        switch (what) {
            case 0:
                return byLeft ? 1 : 0;
            case 1:
                return inn.costOf(guest, dish, byLeft);
            case 2:
                return Inn.bendOf(inn.dishFact(dish, Inn.KIND), byLeft);
            default:
                return inn.townOf(dish, byLeft);
        }
    }

    public int eat(int guest, int dish) {
        if (!inn.isGuest(guest) || !inn.isDish(dish)) {
            return found(BEYOND);
        }
        if (inn.isOff(dish)) {
            return found(STATE);
        }
        inn.haveMeal(guest, dish);
        return inn.guestFact(guest, Inn.FOR);
    }

    // ---- days

    public int go(int n) {
        if (!within(n, 1, MOST_DAYS_AT_ONCE)) {
            return found(BEYOND);
        }
        if (inn.day + n > Inn.LAST_DAY) {
            return found(STATE);
        }
        inn.passDays(n);
        return inn.billSum();
    }

    public int now(int what) {
        switch (what) {
            case 0:
                return inn.day;
            case 1:
                return inn.billSum();
            case 2:
                return inn.townsAimedAt();
            case 3:
                return inn.townsBeenIn();
            case 4:
                return inn.servedSum();
            case 5:
                return inn.partedPairs();
            case 6:
                return inn.dishesOnCard();
            case 7:
                return inn.deepestInDebt();
            default:
                return found(BEYOND);
        }
    }

    // ---- what will be

    public int ahead(int guest, int what, int n) {
        if (!inn.isGuest(guest) || !isGuestFact(what) || !within(n, 0, MOST_DAYS_AHEAD)) {
            return found(BEYOND);
        }
        trial.become(inn);
        trial.passDays(n);
        return trial.guestFact(guest, what);
    }

    public int served(int dish, int n) {
        if (!inn.isDish(dish) || !within(n, 0, MOST_DAYS_AHEAD)) {
            return found(BEYOND);
        }
        trial.become(inn);
        trial.passDays(n);
        return trial.dishFact(dish, Inn.SERVED);
    }

    public int when(int guest, int town) {
        if (!inn.isGuest(guest) || !isTown(town)) {
            return found(BEYOND);
        }
        trial.become(inn);
        for (int days = 0; days <= MOST_DAYS_SOUGHT; days++) {
            if (trial.guestFact(guest, Inn.FOR) == town) {
                return days;
            }
            trial.passDay();
        }
        return found(NONE);
    }

    public int owes(int guest, int v) {
        if (!inn.isGuest(guest) || !within(v, 0, Inn.TOP_BILL)) {
            return found(BEYOND);
        }
        trial.become(inn);
        for (int days = 0; days <= MOST_DAYS_SOUGHT; days++) {
            if (trial.guestFact(guest, Inn.BILL) >= v) {
                return days;
            }
            trial.passDay();
        }
        return found(NONE);
    }

    public int part(int a, int b) {
        if (!inn.isGuest(a) || !inn.isGuest(b) || a == b) {
            return found(BEYOND);
        }
        trial.become(inn);
        for (int days = 0; days <= MOST_DAYS_SOUGHT; days++) {
            if (trial.guestFact(a, Inn.FOR) != trial.guestFact(b, Inn.FOR)) {
                return days;
            }
            trial.passDay();
        }
        return found(NONE);
    }

    // ---- which dish, how bent

    public int dishFor(int i, int n) {
        if (!isPlace(i) || !within(n, 0, MOST_DAYS_AT_ONCE)) {
            return found(BEYOND);
        }
        int eater = Inn.guestOfMeal(inn.meals[i]);
        int best = 0;
        int least = ABOVE_ALL_BILLS;
        for (int d = 0; d < Inn.MOST_DISHES; d++) {
            trial.become(inn);
            trial.planMeal(i, eater, d);
            trial.passDays(n);
            int bills = trial.billSum();
            if (bills < least) {
                least = bills;
                best = d;
            }
        }
        return best;
    }

    public int kindFor(int dish, int n) {
        if (!inn.isDish(dish) || !within(n, 0, MOST_DAYS_AT_ONCE)) {
            return found(BEYOND);
        }
        int best = 0;
        int least = ABOVE_ALL_BILLS;
        for (int kind = 0; kind < Inn.KINDS; kind++) {
            trial.become(inn);
            trial.putDishFact(dish, Inn.KIND, kind);
            trial.passDays(n);
            int bills = trial.billSum();
            if (bills < least) {
                least = bills;
                best = kind;
            }
        }
        return best;
    }

    public int bentFor(int guest, int town, int n) {
        if (!inn.isGuest(guest) || !isTown(town) || !within(n, 0, MOST_DAYS_AT_ONCE)) {
            return found(BEYOND);
        }
        for (int bent = 0; bent < BENTS; bent++) {
            trial.become(inn);
            trial.putGuestFact(guest, Inn.BENT, bent);
            trial.passDays(n);
            if (trial.guestFact(guest, Inn.FOR) == town) {
                return bent;
            }
        }
        return found(NONE);
    }

    public int courses(int guest, int town) {
        if (!inn.isGuest(guest) || !isTown(town)) {
            return found(BEYOND);
        }
        if (inn.guestFact(guest, Inn.FOR) == town) {
            return 0;
        }
        trial.become(inn);
        for (int meals = 1; meals <= MOST_COURSES; meals++) {
            if (leadsTo(guest, town, meals)) {
                return meals;
            }
        }
        return found(NONE);
    }

    public int strike(int guest, int town, int n) {
        if (!inn.isGuest(guest) || !isTown(town) || !within(n, 0, MOST_DAYS_STRUCK)) {
            return found(BEYOND);
        }
        int sets = 1 << inn.dishCount;
        for (int size = 0; size <= inn.dishCount; size++) {
            for (int set = 0; set < sets; set++) {
                if (Integer.bitCount(set) == size && keepsAway(set, guest, town, n)) {
                    return set;
                }
            }
        }
        return found(NONE);
    }

    // ---- told towns

    public int fits(int s, int guest) {
        int trouble = sheetTrouble(s);
        if (trouble != 0) {
            return found(trouble);
        }
        if (!inn.isGuest(guest)) {
            return found(BEYOND);
        }
        int fitting = 0;
        for (int bent = 0; bent < BENTS; bent++) {
            trial.become(inn);
            trial.putGuestFact(guest, Inn.BENT, bent);
            if (goesAsTold(sheets[s], guest)) {
                fitting++;
            }
        }
        return fitting;
    }

    public int kinds(int s, int dish, int guest) {
        int trouble = sheetTrouble(s);
        if (trouble != 0) {
            return found(trouble);
        }
        if (!inn.isDish(dish) || !inn.isGuest(guest)) {
            return found(BEYOND);
        }
        int fitting = 0;
        for (int kind = 0; kind < Inn.KINDS; kind++) {
            trial.become(inn);
            trial.putDishFact(dish, Inn.KIND, kind);
            if (goesAsTold(sheets[s], guest)) {
                fitting |= 1 << kind;
            }
        }
        return fitting;
    }

    // ---- coaches

    public int coach(int n) {
        if (!within(n, 1, MOST_DRAWN_MEALS)) {
            return found(BEYOND);
        }
        if (inn.day + n > Inn.LAST_DAY) {
            return found(STATE);
        }
        for (int k = 0; k < n; k++) {
            int drawnGuest = inn.drawNumber() % Inn.MOST_GUESTS;
            int drawnDish = inn.drawNumber() % Inn.MOST_DISHES;
            inn.planMeal(inn.day % Inn.PLACES, drawnGuest, drawnDish);
            inn.passDay();
        }
        return inn.billSum();
    }

    public long odds(int guest, int dish, int n, int what) {
        if (!inn.isGuest(guest) || !inn.isDish(dish) || !within(n, 0, MOST_DRAWN_BENTS) || !within(what, 0, 1)) {
            return found(BEYOND);
        }
        trial.become(inn);
        int lefts = 0;
        for (int bent = 0; bent < BENTS; bent++) {
            trial.putGuestFact(guest, Inn.BENT, bent);
            if (trial.takesLeft(guest, dish)) {
                lefts++;
            }
        }
        int shared = sharedWithAllBents(lefts);
        return power(what == 0 ? lefts / shared : BENTS / shared, n);
    }

    public int seed(int v) {
        int was = inn.z;
        inn.z = v;
        return was;
    }

    // ---- texts

    public int feed(int bytes, int n) {
        if (!within(n, 1, 4)) {
            return found(BEYOND);
        }
        if (tape.length + n > Tape.MOST_BYTES) {
            return found(FULL);
        }
        for (int k = n - 1; k >= 0; k--) {
            tape.addByte((byte) (bytes >> (8 * k)));
        }
        return tape.length;
    }

    public int wipe() {
        int had = tape.length;
        tape.length = 0;
        return had;
    }

    public int text() {
        trial.become(inn);
        int items = tape.readText(trial);
        tape.length = 0;
        if (items >= 0) {
            inn.become(trial);
        }
        return items;
    }

    // ---- spots, sheets

    public int hold(int spot, int dish) {
        if (!isSpot(spot) || dish != NOTHING && !inn.isDish(dish)) {
            return found(BEYOND);
        }
        inn.spots[spot] = dish;
        return 1;
    }

    public int as(int spot, int kind) {
        if (!isSpot(spot) || !isKind(kind)) {
            return found(BEYOND);
        }
        int held = inn.spots[spot];
        if (!inn.isDish(held)) {
            return found(MISSING);
        }
        if (!Inn.isUnder(inn.dishFact(held, Inn.KIND), kind)) {
            return found(OTHER_KIND);
        }
        return held;
    }

    public int sheet(int s, int bits, int n) {
        if (!isSheet(s) || bits != 0 && bits != 8 && bits != 16 && bits != 32) {
            return found(BEYOND);
        }
        if (n < 0) {
            return found(SIZE);
        }
        if (n > Sheet.MOST_NUMBERS) {
            return found(BEYOND);
        }
        sheets[s].start(bits, bits == 0 ? 0 : n);
        return sheets[s].length;
    }

    public int write(int s, int i, int v) {
        int trouble = sheetTrouble(s);
        if (trouble != 0) {
            return found(trouble);
        }
        if (!within(i, 0, sheets[s].length - 1)) {
            return found(BEYOND);
        }
        sheets[s].put(i, v);
        return 1;
    }

    public int copy(int s, int from, int t, int to, int n) {
        if (!isSheet(s) || !isSheet(t)) {
            return found(BEYOND);
        }
        Sheet source = sheets[s];
        Sheet target = sheets[t];
        if (source.isMissing() || target.isMissing()) {
            return found(MISSING);
        }
        if (source.bits != target.bits) {
            return found(OTHER_KIND);
        }
        if (!source.hasRange(from, n) || !target.hasRange(to, n)) {
            return found(BEYOND);
        }
        System.arraycopy(source.numbers, from, target.numbers, to, n);
        return n;
    }

    public int load(int s) {
        int trouble = sheetTrouble(s);
        if (trouble != 0) {
            return found(trouble);
        }
        int most = Math.min(sheets[s].length, inn.guestCount);
        for (int g = 0; g < most; g++) {
            int bent = sheets[s].numbers[g];
            if (!isBent(bent)) {
                return g;
            }
            inn.putGuestFact(g, Inn.BENT, bent);
        }
        return most;
    }

    public int judge(int s) {
        int trouble = sheetTrouble(s);
        if (trouble != 0) {
            return found(trouble);
        }
        for (int g = 0; g < sheets[s].length; g++) {
            if (!inn.isGuest(g) || inn.guestFact(g, Inn.FOR) != sheets[s].numbers[g]) {
                return 1 + g;
            }
        }
        return 0;
    }

    // ---- images

    public int image() {
        kept.become(inn);
        imageKept = true;
        return 1;
    }

    public int undo() {
        if (!imageKept) {
            return found(NONE);
        }
        inn.become(kept);
        return inn.day;
    }

    public int tear() {
        int had = imageKept ? 1 : 0;
        imageKept = false;
        return had;
    }

    public int count(int what) {
        switch (what) {
            case 0:
                return inn.day;
            case 1:
                return inn.dishCount;
            case 2:
                return inn.guestCount;
            case 3:
                return inn.billSum();
            case 4:
                return inn.servedSum();
            case 5:
                return tape.length;
            case 6:
                return inn.z;
            case 7:
                return inn.spotsInUse();
            default:
                return found(BEYOND);
        }
    }

    public int status(int which) {
        if (which == -1) {
            int all = 0;
            for (int k = 0; k < FINDINGS; k++) {
                all += findings[k];
            }
            return all;
        }
        if (!within(which, 0, FINDINGS - 1)) {
            return found(BEYOND);
        }
        return findings[which];
    }

    // ---- what the acts share

    private int found(int finding) {
        int which = LOW - finding;
        if (within(which, 0, FINDINGS - 1)) {
            findings[which]++;
        }
        return finding;
    }

    /** The finding that a sheet's number earns before anything else is asked, or 0. */
    private int sheetTrouble(int s) {
        if (!isSheet(s)) {
            return BEYOND;
        }
        return sheets[s].isMissing() ? MISSING : 0;
    }

    /** Whether some row of that many dishes, eaten in the trial, ends at the town. */
    private boolean leadsTo(int guest, int town, int meals) {
        if (meals < 1 || meals > MOST_COURSES) {
            return false;
        }
        for (int d = 0; d < trial.dishCount; d++) {
            if (!trial.isOff(d) && leadsToBy(d, guest, town, meals)) {
                return true;
            }
        }
        return false;
    }

    private boolean leadsToBy(int dish, int guest, int town, int meals) {
        boolean byLeft = trial.takesLeft(guest, dish);
        if (meals == 1) {
            return trial.townOf(dish, byLeft) == town;
        }
        // Which way a dish is taken hangs on BENT and SERVED of what was eaten, so only these are put back.
        int bent = trial.guestFact(guest, Inn.BENT);
        int helpings = trial.dishFact(dish, Inn.SERVED);
        trial.bendGuest(guest, Inn.bendOf(trial.dishFact(dish, Inn.KIND), byLeft));
        trial.serveOnce(dish);
        boolean reached = leadsTo(guest, town, meals - 1);
        trial.putGuestFact(guest, Inn.BENT, bent);
        trial.putDishFact(dish, Inn.SERVED, helpings);
        return reached;
    }

    private boolean keepsAway(int set, int guest, int town, int n) {
        trial.become(inn);
        for (int d = 0; d < trial.dishCount; d++) {
            if ((set >> d & 1) == 1) {
                trial.putDishFact(d, Inn.OFF, 1);
            }
        }
        trial.passDays(n);
        return trial.guestFact(guest, Inn.FOR) != town;
    }

    /** Whether the guest of the trial is for the towns that the sheet tells, day by day. */
    private boolean goesAsTold(Sheet told, int guest) {
        for (int k = 0; k < told.length; k++) {
            if (k > 0) {
                trial.passDay();
            }
            int town = told.numbers[k];
            if (town != ANY_TOWN && town != trial.guestFact(guest, Inn.FOR)) {
                return false;
            }
        }
        return true;
    }

    private static int sharedWithAllBents(int lefts) {
        for (int d = BENTS; d > 1; d--) {
            if (BENTS % d == 0 && lefts % d == 0) {
                return d;
            }
        }
        return 1;
    }

    private static long power(int base, int n) {
        long product = 1;
        for (int k = 0; k < n; k++) {
            product *= base;
        }
        return product;
    }

    private static boolean within(int v, int least, int most) {
        return v >= least && v <= most;
    }

    private static boolean isPlace(int i) {
        return within(i, 0, Inn.PLACES - 1);
    }

    private static boolean isKind(int kind) {
        return within(kind, 0, Inn.KINDS - 1);
    }

    private static boolean isTown(int town) {
        return within(town, 0, Inn.TOP_TOWN);
    }

    private static boolean isBent(int bent) {
        return within(bent, 0, Inn.TOP_BENT);
    }

    private static boolean isGuestFact(int what) {
        return within(what, 0, Inn.GUEST_FACTS - 1);
    }

    private static boolean isSpot(int spot) {
        return within(spot, 0, Inn.SPOTS - 1);
    }

    private static boolean isSheet(int s) {
        return within(s, 0, SHEETS - 1);
    }

    /** All that an image keeps, and what a meal and a day do to it. */
    private static final class Inn {
        static final int MOST_DISHES = 8;
        static final int MOST_GUESTS = 6;
        static final int PLACES = 6;
        static final int SPOTS = 10;
        static final int LAST_DAY = 99999;
        static final int TOP_TOWN = 11;
        static final int TOP_BENT = 99;
        static final int TOP_PRICE = 99;
        static final int TOP_SERVED = 9999;
        static final int TOP_BILL = 99999;
        static final int TOP_EATEN = 9999;
        static final int ALL_TOWNS = 4095;
        static final int FIRST_PRICE = 10;

        static final int PLAIN = 0;
        static final int PIE = 1;
        static final int ROAST = 2;
        static final int JOINT = 3;
        static final int TRIFLE = 4;
        static final int MUTTON = 5;
        static final int PEAS = 6;
        static final int KINDS = 7;
        /** The kind under which each one stands; a plain dish stands under none. */
        static final int[] KIND_ABOVE = {-1, PLAIN, PLAIN, ROAST, JOINT, PLAIN, PIE};

        static final int KIND = 0;
        static final int LEFT = 1;
        static final int RIGHT = 2;
        static final int PRICE = 3;
        static final int SERVED = 4;
        static final int OFF = 5;
        static final int DISH_FACTS = 6;
        static final int[] DISH_TOPS = {KINDS - 1, TOP_TOWN, TOP_TOWN, TOP_PRICE, TOP_SERVED, 1};

        static final int BENT = 0;
        static final int FOR = 1;
        static final int BILL = 2;
        static final int BEEN = 3;
        static final int EATEN = 4;
        static final int GUEST_FACTS = 5;
        static final int[] GUEST_TOPS = {TOP_BENT, TOP_TOWN, TOP_BILL, ALL_TOWNS, TOP_EATEN};

        final int[] meals;
        final int[] dishes;
        final int[] guests;
        final int[] spots;
        int dishCount;
        int guestCount;
        int day;
        int z;

        Inn() {
            meals = new int[PLACES];
            dishes = new int[MOST_DISHES * DISH_FACTS];
            guests = new int[MOST_GUESTS * GUEST_FACTS];
            spots = new int[SPOTS];
            for (int k = 0; k < SPOTS; k++) {
                spots[k] = NOTHING;
            }
            z = 1;
        }

        void become(Inn other) {
            System.arraycopy(other.meals, 0, meals, 0, PLACES);
            System.arraycopy(other.dishes, 0, dishes, 0, MOST_DISHES * DISH_FACTS);
            System.arraycopy(other.guests, 0, guests, 0, MOST_GUESTS * GUEST_FACTS);
            System.arraycopy(other.spots, 0, spots, 0, SPOTS);
            dishCount = other.dishCount;
            guestCount = other.guestCount;
            day = other.day;
            z = other.z;
        }

        boolean isDish(int dish) {
            return dish >= 0 && dish < dishCount;
        }

        boolean isGuest(int guest) {
            return guest >= 0 && guest < guestCount;
        }

        int dishFact(int dish, int what) {
            return dishes[dish * DISH_FACTS + what];
        }

        void putDishFact(int dish, int what, int v) {
            dishes[dish * DISH_FACTS + what] = v;
        }

        int guestFact(int guest, int what) {
            return guests[guest * GUEST_FACTS + what];
        }

        void putGuestFact(int guest, int what, int v) {
            guests[guest * GUEST_FACTS + what] = v;
        }

        boolean isOff(int dish) {
            return dishFact(dish, OFF) == 1;
        }

        /** The caller has seen that there is room; so it is with a guest. */
        int addDish(int kind, int left, int right) {
            int dish = dishCount;
            dishCount++;
            putDishFact(dish, KIND, kind);
            putDishFact(dish, LEFT, left);
            putDishFact(dish, RIGHT, right);
            putDishFact(dish, PRICE, FIRST_PRICE);
            putDishFact(dish, SERVED, 0);
            putDishFact(dish, OFF, 0);
            return dish;
        }

        int addGuest(int bent) {
            int guest = guestCount;
            guestCount++;
            putGuestFact(guest, BENT, bent);
            putGuestFact(guest, FOR, 0);
            putGuestFact(guest, BILL, 0);
            putGuestFact(guest, BEEN, 0);
            putGuestFact(guest, EATEN, 0);
            return guest;
        }

        void planMeal(int place, int guest, int dish) {
            meals[place] = 10 * guest + dish;
        }

        static int guestOfMeal(int meal) {
            return meal / 10;
        }

        static int dishOfMeal(int meal) {
            return meal % 10;
        }

        /** Whether a kind is the other one, or stands under it. */
        static boolean isUnder(int kind, int other) {
            int k = kind;
            for (int step = 0; step < KINDS && k >= 0; step++) {
                if (k == other) {
                    return true;
                }
                k = KIND_ABOVE[k];
            }
            return false;
        }

        boolean takesLeft(int guest, int dish) {
            int bent = guestFact(guest, BENT);
            boolean evenBent = bent % 2 == 0;
            boolean evenServed = dishFact(dish, SERVED) % 2 == 0;
            switch (dishFact(dish, KIND)) {
                case PIE:
                    return evenBent;
                case PEAS:
                    return evenBent == evenServed;
                case ROAST:
                    return bent < 30;
                case JOINT:
                    return bent < 30 || anotherIsFor(guest, dishFact(dish, RIGHT));
                case TRIFLE:
                    return evenServed;
                case MUTTON:
                    return true;
                default:
                    return bent < 50;
            }
        }

        boolean anotherIsFor(int guest, int town) {
            for (int g = 0; g < guestCount; g++) {
                if (g != guest && guests[g * GUEST_FACTS + FOR] == town) {
                    return true;
                }
            }
            return false;
        }

        static int bendOf(int kind, boolean byLeft) {
            int plain = byLeft ? -5 : 5;
            switch (kind) {
                case PIE:
                    return plain - 1;
                case PEAS:
                    return 1;
                case ROAST:
                    return 2 * plain;
                case JOINT:
                    return 2 * plain + 3;
                case TRIFLE:
                    // A joint's, taken the other way.
                    return -2 * plain + 3;
                case MUTTON:
                    return 0;
                default:
                    return plain;
            }
        }

        int costOf(int guest, int dish, boolean byLeft) {
            int price = dishFact(dish, PRICE);
            int roast = price + guestFact(guest, BENT) / 10;
            switch (dishFact(dish, KIND)) {
                case PIE:
                    return Math.max(price - 2, 0);
                case PEAS:
                    return 1;
                case ROAST:
                    return roast;
                case JOINT:
                    return 2 * roast;
                case TRIFLE:
                    // Half of a joint is a roast.
                    return byLeft ? 2 * roast : roast;
                default:
                    return price;
            }
        }

        int townOf(int dish, boolean byLeft) {
            return dishFact(dish, byLeft ? LEFT : RIGHT);
        }

        void bendGuest(int guest, int bend) {
            int bent = guestFact(guest, BENT) + bend;
            putGuestFact(guest, BENT, Math.max(0, Math.min(TOP_BENT, bent)));
        }

        void serveOnce(int dish) {
            putDishFact(dish, SERVED, Math.min(TOP_SERVED, dishFact(dish, SERVED) + 1));
        }

        /** The caller has seen that there are both, and that the dish isn't off. */
        void haveMeal(int guest, int dish) {
            boolean byLeft = takesLeft(guest, dish);
            int town = townOf(dish, byLeft);
            int bill = guestFact(guest, BILL) + costOf(guest, dish, byLeft);
            putGuestFact(guest, FOR, town);
            putGuestFact(guest, BEEN, guestFact(guest, BEEN) | 1 << town);
            putGuestFact(guest, BILL, Math.min(TOP_BILL, bill));
            putGuestFact(guest, EATEN, Math.min(TOP_EATEN, guestFact(guest, EATEN) + 1));
            bendGuest(guest, bendOf(dishFact(dish, KIND), byLeft));
            serveOnce(dish);
        }

        void passDay() {
            int meal = meals[day % PLACES];
            int guest = guestOfMeal(meal);
            int dish = dishOfMeal(meal);
            if (isGuest(guest) && isDish(dish) && !isOff(dish)) {
                haveMeal(guest, dish);
            }
            day = Math.min(LAST_DAY, day + 1);
        }

        void passDays(int n) {
            for (int k = 0; k < n; k++) {
                passDay();
            }
        }

        int drawNumber() {
            z = z * 1103515245 + 12345;
            return z >>> 8;
        }

        int billSum() {
            int sum = 0;
            for (int g = 0; g < guestCount; g++) {
                sum += guestFact(g, BILL);
            }
            return sum;
        }

        int servedSum() {
            int sum = 0;
            for (int d = 0; d < dishCount; d++) {
                sum += dishFact(d, SERVED);
            }
            return sum;
        }

        int townsAimedAt() {
            int set = 0;
            for (int g = 0; g < guestCount; g++) {
                set |= 1 << guestFact(g, FOR);
            }
            return set;
        }

        int townsBeenIn() {
            int set = 0;
            for (int g = 0; g < guestCount; g++) {
                set |= guestFact(g, BEEN);
            }
            return set;
        }

        int partedPairs() {
            int pairs = 0;
            for (int a = 0; a < guestCount; a++) {
                for (int b = a + 1; b < guestCount; b++) {
                    if (guestFact(a, FOR) != guestFact(b, FOR)) {
                        pairs++;
                    }
                }
            }
            return pairs;
        }

        int dishesOnCard() {
            int set = 0;
            for (int d = 0; d < dishCount; d++) {
                if (!isOff(d)) {
                    set |= 1 << d;
                }
            }
            return set;
        }

        int deepestInDebt() {
            int debtor = -1;
            int most = -1;
            for (int g = 0; g < guestCount; g++) {
                if (guestFact(g, BILL) > most) {
                    most = guestFact(g, BILL);
                    debtor = g;
                }
            }
            return debtor;
        }

        int spotsInUse() {
            int held = 0;
            for (int k = 0; k < SPOTS; k++) {
                if (spots[k] != NOTHING) {
                    held++;
                }
            }
            return held;
        }
    }

    /** The tape, and the reader that goes over it token by token. */
    private static final class Tape {
        static final int MOST_BYTES = 120;
        static final int TOP_NUMBER = 9999;

        static final int END = 0;
        static final int WORD = 1;
        static final int NUMBER = 2;
        static final int SIGN = 3;
        static final int NO_TOKEN = 4;

        final byte[] bytes;
        int length;
        /** What the token at hand is, where it begins, the place behind it, and what a number tells. */
        int token;
        int start;
        int behind;
        int value;

        Tape() {
            bytes = new byte[MOST_BYTES];
        }

        void addByte(byte b) {
            if (length < MOST_BYTES) {
                bytes[length] = b;
                length++;
            }
        }

        /** Puts what the text tells into an inn: how many items, or -1 less the fault. */
        int readText(Inn into) {
            behind = 0;
            nextToken();
            for (int items = 1; items <= MOST_BYTES; items++) {
                if (!readItem(into)) {
                    break;
                }
                if (token == END) {
                    return items;
                }
                if (token != SIGN) {
                    break;
                }
                nextToken();
            }
            return -1 - start;
        }

        /** The reads answer whether all was well; if not, the token at hand is the fault. */
        boolean readItem(Inn into) {
            if (isWord("guest")) {
                return readGuest(into);
            }
            if (isWord("meal")) {
                return readMeal(into);
            }
            for (int kind = 0; kind < Inn.KINDS; kind++) {
                if (isWord(wordOf(kind))) {
                    return readDish(into, kind);
                }
            }
            return false;
        }

        boolean readDish(Inn into, int kind) {
            if (into.dishCount >= Inn.MOST_DISHES) {
                return false;
            }
            nextToken();
            int left = takeNumber(Inn.TOP_TOWN);
            int right = left < 0 ? -1 : takeNumber(Inn.TOP_TOWN);
            if (right < 0) {
                return false;
            }
            int price = takeWord("price") ? takeNumber(Inn.TOP_PRICE) : Inn.FIRST_PRICE;
            if (price < 0) {
                return false;
            }
            int served = takeWord("served") ? takeNumber(Inn.TOP_SERVED) : 0;
            if (served < 0) {
                return false;
            }
            int dish = into.addDish(kind, left, right);
            into.putDishFact(dish, Inn.PRICE, price);
            into.putDishFact(dish, Inn.SERVED, served);
            into.putDishFact(dish, Inn.OFF, takeWord("off") ? 1 : 0);
            return true;
        }

        boolean readGuest(Inn into) {
            if (into.guestCount >= Inn.MOST_GUESTS) {
                return false;
            }
            nextToken();
            int bent = takeNumber(Inn.TOP_BENT);
            if (bent < 0) {
                return false;
            }
            int town = takeWord("for") ? takeNumber(Inn.TOP_TOWN) : 0;
            if (town < 0) {
                return false;
            }
            int guest = into.addGuest(bent);
            into.putGuestFact(guest, Inn.FOR, town);
            return true;
        }

        boolean readMeal(Inn into) {
            nextToken();
            int place = takeNumber(Inn.PLACES - 1);
            int guest = place < 0 ? -1 : takeNumber(Inn.MOST_GUESTS - 1);
            int dish = guest < 0 ? -1 : takeNumber(Inn.MOST_DISHES - 1);
            if (dish < 0) {
                return false;
            }
            into.planMeal(place, guest, dish);
            return true;
        }

        boolean takeWord(String word) {
            if (!isWord(word)) {
                return false;
            }
            nextToken();
            return true;
        }

        /** The number at hand, if it is from 0 to top, else -1. */
        int takeNumber(int top) {
            if (token != NUMBER || value > top) {
                return -1;
            }
            int taken = value;
            nextToken();
            return taken;
        }

        boolean isWord(String word) {
            if (token != WORD || behind - start != word.length()) {
                return false;
            }
            for (int k = 0; k < word.length(); k++) {
                if (bytes[start + k] != word.charAt(k)) {
                    return false;
                }
            }
            return true;
        }

        static String wordOf(int kind) {
            switch (kind) {
                case Inn.PIE:
                    return "pie";
                case Inn.ROAST:
                    return "roast";
                case Inn.JOINT:
                    return "joint";
                case Inn.TRIFLE:
                    return "trifle";
                case Inn.MUTTON:
                    return "mutton";
                case Inn.PEAS:
                    return "peas";
                default:
                    return "dish";
            }
        }

        void nextToken() {
            start = behind;
            while (start < length && bytes[start] == ' ') {
                start++;
            }
            behind = start;
            value = 0;
            if (start >= length) {
                token = END;
                return;
            }
            token = tokenBegunBy(bytes[start]);
            do {
                // Above the top it is a fault already, and more digits could only wrap it around.
                if (token == NUMBER && value <= TOP_NUMBER) {
                    value = 10 * value + (bytes[behind] - '0');
                }
                behind++;
            } while (token != SIGN && behind < length && tokenBegunBy(bytes[behind]) == token);
        }

        static int tokenBegunBy(byte b) {
            if (b >= 'a' && b <= 'z') {
                return WORD;
            }
            if (b >= '0' && b <= '9') {
                return NUMBER;
            }
            return b == ';' ? SIGN : NO_TOKEN;
        }
    }

    /** A row of numbers of so many bits; with 0 bits it is missing. */
    private static final class Sheet {
        static final int MOST_NUMBERS = 40;

        final int[] numbers;
        int bits;
        int length;

        Sheet() {
            numbers = new int[MOST_NUMBERS];
        }

        boolean isMissing() {
            return bits == 0;
        }

        void start(int newBits, int newLength) {
            bits = newBits;
            length = newLength;
            for (int k = 0; k < MOST_NUMBERS; k++) {
                numbers[k] = 0;
            }
        }

        void put(int i, int v) {
            if (bits == 8) {
                numbers[i] = (byte) v;
            } else if (bits == 16) {
                numbers[i] = (short) v;
            } else {
                numbers[i] = v;
            }
        }

        /** Written so that no sum can wrap around. */
        boolean hasRange(int from, int n) {
            return n >= 0 && n <= length && from >= 0 && from <= length - n;
        }
    }
}
