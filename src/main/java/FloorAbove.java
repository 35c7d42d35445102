import java.util.Arrays;

/** A tall house whose tenants live one floor above what they have paid for. */
public final class FloorAbove {
    public static final int NONE = -1, BAD = -2, NOT = -3, FULL = -4;

    private static final int LEAST = 0x80000000;
    private static final long LEAST_LONG = 0x8000000000000000L;

    private static final int MOST = 8;
    private static final int MONTHS = 24;
    private static final int LAST = MONTHS - 1;
    private static final int HIGHEST = 12;
    private static final int CELLAR = -1;
    private static final int BYTES = 31;
    private static final int SORTS = 4;
    private static final int WAGES = 10;
    private static final int ALL = (1 << MOST) - 1;
    private static final int[] DIGEST_MONTHS = {0, 6, 13, 23};

    private static final int PREPAID = 1, CARRIED = 2, ROPED = 3;
    private static final int BILL = 0, GIFT = 1, AUDIT = 2;

    private static final int SHEETS = 4, FORMS = 3, ITEMS = 60;
    private static final int NULL = 1, INDEX = 2, CAST = 3, STORE = 4, SIZE = 5;

    private final Text text = new Text();
    private final Tenants told = new Tenants();
    private final Tenants others = new Tenants();
    private final Events events = new Events();
    private final Seen seen = new Seen();
    private final Course course = new Course();
    private final Course trial = new Course();
    private final Best best = new Best();
    private final Sheet[] sheets = new Sheet[SHEETS];
    /** By the EVENTS that are, as bits: who is SETTLED, as bits; NONE: not yet looked at. */
    private final int[] settledBy = new int[ALL + 1];
    /** By WAGE and MONTH: where all live, in one number. */
    private final int[] views = new int[WAGES * MONTHS];
    private int room = 2;
    private int finding = 0;
    private boolean courseKnown = false;
    private boolean settledByKnown = false;

    public FloorAbove() {
        for (int s = 0; s < SHEETS; s++) {
            sheets[s] = new Sheet();
        }
    }

    // ---- tenants, room, events

    public int type(int b) {
        if (!within(b, 0, 255)) {
            return BAD;
        }
        if (text.size >= BYTES) {
            return FULL;
        }
        text.bytes[text.size] = b;
        text.size++;
        textChanged();
        return text.size;
    }

    public int wipe() {
        int had = text.size;
        text.size = 0;
        textChanged();
        return had;
    }

    public int undo() {
        if (text.size == 0) {
            return NOT;
        }
        text.size--;
        textChanged();
        return text.size;
    }

    public int fault() {
        return text.faultPlace();
    }

    public int tenant(int tenant, int what) {
        if (!isTenant(tenant) || !within(what, 0, 2)) {
            return BAD;
        }
        if (what == 0) {
            return told.sort[tenant];
        }
        return what == 1 ? told.paid[tenant] : told.wage[tenant];
    }

    public int room(int v) {
        if (!within(v, 1, MOST)) {
            return BAD;
        }
        int was = room;
        room = v;
        houseChanged();
        return was;
    }

    public int event(int kind, int month, int number) {
        if (!Events.canBe(kind, month, number)) {
            return BAD;
        }
        if (events.size >= MOST) {
            return FULL;
        }
        events.add(kind, month, number);
        houseChanged();
        return events.size;
    }

    public int back() {
        if (events.size == 0) {
            return NOT;
        }
        events.size--;
        houseChanged();
        return events.size;
    }

    public int read(int s) {
        if (!within(s, 0, SHEETS - 1)) {
            return BAD;
        }
        if (sheets[s].lost) {
            return found(NULL);
        }
        int[] items = sheets[s].items;
        int came = 0;
        for (int i = 0; i + 2 < sheets[s].size; i += 3) {
            if (event(items[i], items[i + 1], items[i + 2]) < 0) {
                break;
            }
            came++;
        }
        return came;
    }

    // ---- months

    public int at(int month, int tenant, int what) {
        if (!isMonth(month) || !isTenant(tenant) || !within(what, 0, 3)) {
            return LEAST;
        }
        Course c = courseTold();
        switch (what) {
            case 0:
                return c.floorAt(month, tenant);
            case 1:
                return c.leftAt(month, tenant);
            case 2:
                return c.owes(month, tenant) ? 1 : 0;
            default:
                return c.fellIn(month, tenant) ? 1 : 0;
        }
    }

    public int live(int month, int floor) {
        if (!isMonth(month) || !within(floor, 0, HIGHEST)) {
            return BAD;
        }
        return courseTold().whoLives(month, floor);
    }

    public int lift(int month) {
        if (!isMonth(month)) {
            return BAD;
        }
        return courseTold().liftStops(month);
    }

    public int ends(int tenant, int what) {
        if (!isTenant(tenant) || !within(what, 0, 3)) {
            return LEAST;
        }
        Course c = courseTold();
        switch (what) {
            case 0:
                return c.settled[tenant];
            case 1:
                return c.falls[tenant];
            case 2:
                return c.passed[tenant];
            default:
                return c.highestOf(tenant);
        }
    }

    public int sum(int what) {
        if (!within(what, 0, 3)) {
            return BAD;
        }
        Course c = courseTold();
        switch (what) {
            case 0:
                return c.settledInAll();
            case 1:
                return c.fallsInAll();
            case 2:
                return c.passedInAll();
            default:
                return c.owedInAll();
        }
    }

    public int top() {
        return courseTold().topTenant();
    }

    public int heard() {
        return courseTold().heardFloors();
    }

    // ---- plans

    public int earn(int tenant, int what) {
        if (!isTenant(tenant) || !within(what, 0, 2)) {
            return BAD;
        }
        planWage(tenant);
        return best.part(what);
    }

    public int be(int tenant, int what) {
        if (!isTenant(tenant) || !within(what, 0, 2)) {
            return BAD;
        }
        planSort(tenant);
        return best.part(what);
    }

    public int widen(int what) {
        if (!within(what, 0, 2)) {
            return BAD;
        }
        planRoom();
        return best.part(what);
    }

    public int spare(int i) {
        if (!within(i, NONE, 1)) {
            return BAD;
        }
        int without = sparedEvents();
        if (without < 0) {
            return NONE;
        }
        return i == NONE ? Integer.bitCount(without) : bitPlace(without, i);
    }

    // ---- seen, chance, houses

    public int seen(int month, int tenant, int floor) {
        if (!isMonth(month) || !within(tenant, 0, MOST - 1) || !within(floor, CELLAR, HIGHEST)) {
            return BAD;
        }
        if (seen.size >= MOST) {
            return FULL;
        }
        seen.add(month, tenant, floor);
        return seen.size;
    }

    public int forget() {
        int had = seen.size;
        seen.size = 0;
        return had;
    }

    public int never() {
        int bits = 0;
        for (int e = 0; e < events.size; e++) {
            trial.run(told, events, ALL & ~(1 << e), room);
            if (seen.comesOut(trial)) {
                bits |= 1 << e;
            }
        }
        return bits;
    }

    public int was(int tenant, int what) {
        if (!isTenant(tenant) || !within(what, 0, 1)) {
            return BAD;
        }
        return what == 0 ? seenWages(tenant) : seenSorts(tenant);
    }

    public int ask(int tenant) {
        if (!isTenant(tenant)) {
            return BAD;
        }
        int wages = seenWages(tenant);
        int month = 0;
        int least = WAGES + 1;
        for (int m = 0; m < MONTHS; m++) {
            int greatest = greatestAlike(wages, m);
            if (greatest < least) {
                least = greatest;
                month = m;
            }
        }
        return month;
    }

    public long chance(int c, int tenant, int what) {
        if (!within(c, 0, 16) || !isTenant(tenant) || !within(what, 0, 1)) {
            return LEAST_LONG - BAD;
        }
        long above = 0;
        long below = 1L << 4 * events.size;
        for (int with = 0; with < 1 << events.size; with++) {
            if ((settledWith(with) >> tenant & 1) != 0) {
                above += weight(c, with);
            }
        }
        long common = commonDivisor(above, below);
        return what == 0 ? above / common : below / common;
    }

    public int houses(int seed, int n, int what) {
        if (!within(n, 0, MOST) || !within(what, 0, 1)) {
            return BAD;
        }
        others.drawLots(seed, n);
        trial.run(others, events, ALL, room);
        return what == 0 ? trial.settledInAll() : trial.fallsInAll();
    }

    // ---- sheets

    public int sheet(int s, int form, int n) {
        if (!within(s, 0, SHEETS - 1) || !within(form, 0, FORMS - 1) || n > ITEMS) {
            return BAD;
        }
        if (n < 0) {
            return found(SIZE);
        }
        sheets[s].renew(form, n);
        return n;
    }

    public int lose(int s) {
        if (!within(s, 0, SHEETS - 1)) {
            return BAD;
        }
        if (sheets[s].lost) {
            return found(NULL);
        }
        sheets[s].lost = true;
        return sheets[s].size;
    }

    public int lay(int s, int form, int i, int v) {
        if (!within(s, 0, SHEETS - 1) || !within(form, 0, FORMS - 1)) {
            return BAD;
        }
        int flaw = sheets[s].flaw(form, i);
        if (flaw != 0) {
            return found(flaw);
        }
        sheets[s].put(i, v);
        return 1;
    }

    public int get(int s, int form, int i) {
        if (!within(s, 0, SHEETS - 1) || !within(form, 0, FORMS - 1)) {
            return LEAST;
        }
        int flaw = sheets[s].flaw(form, i);
        if (flaw != 0) {
            finding = flaw;
            return LEAST;
        }
        return sheets[s].items[i];
    }

    public int copy(int s, int i, int t, int j, int n) {
        if (!within(s, 0, SHEETS - 1) || !within(t, 0, SHEETS - 1)) {
            return BAD;
        }
        Sheet from = sheets[s];
        Sheet to = sheets[t];
        if (from.lost || to.lost) {
            return found(NULL);
        }
        if (from.form != to.form) {
            return found(STORE);
        }
        if (!from.hasSpan(i, n) || !to.hasSpan(j, n)) {
            return found(INDEX);
        }
        System.arraycopy(from.items, i, to.items, j, n);
        return 1;
    }

    public int write(int tenant, int s) {
        if (!isTenant(tenant) || !within(s, 0, SHEETS - 1)) {
            return BAD;
        }
        if (sheets[s].lost) {
            return found(NULL);
        }
        Course c = courseTold();
        int n = Math.min(sheets[s].size, MONTHS);
        for (int m = 0; m < n; m++) {
            sheets[s].put(m, c.floorAt(m, tenant));
        }
        return n;
    }

    public int count(int what) {
        switch (what) {
            case 0:
                return told.size;
            case 1:
                return text.size;
            case 2:
                return events.size;
            case 3:
                return courseTold().settledInAll();
            case 4:
                return courseTold().fallsInAll();
            case 5:
                return room;
            case 6:
                return courseTold().housedAtLast();
            case 7:
                return seen.size;
            case 8:
                return finding;
            default:
                return BAD;
        }
    }

    public long digest() {
        long h = 17;
        for (int what = 0; what <= 7; what++) {
            h = 31 * h + count(what);
        }
        h = 31 * h + fault();
        for (int m = 0; m < MONTHS; m++) {
            h = 31 * h + lift(m);
        }
        for (int f = 0; f <= HIGHEST; f++) {
            h = 31 * h + live(3, f);
            h = 31 * h + live(9, f);
            h = 31 * h + live(LAST, f);
        }
        for (int t = 0; t < told.size; t++) {
            h = digestPlans(digestMonths(h, t), t);
        }
        for (int what = 0; what <= 3; what++) {
            h = 31 * h + sum(what);
        }
        h = 31 * h + top();
        h = 31 * h + heard();
        planRoom();
        h = digestBest(h);
        h = 31 * h + spare(NONE);
        h = 31 * h + spare(0);
        h = 31 * h + never();
        h = 31 * h + houses(7, 6, 0);
        h = 31 * h + houses(7, 6, 1);
        return h;
    }

    private long digestMonths(long before, int tenant) {
        long h = before;
        for (int what = 0; what <= 2; what++) {
            h = 31 * h + tenant(tenant, what);
        }
        for (int month : DIGEST_MONTHS) {
            for (int what = 0; what <= 3; what++) {
                h = 31 * h + at(month, tenant, what);
            }
        }
        for (int what = 0; what <= 3; what++) {
            h = 31 * h + ends(tenant, what);
        }
        return h;
    }

    private long digestPlans(long before, int tenant) {
        planWage(tenant);
        long h = digestBest(before);
        planSort(tenant);
        h = digestBest(h);
        h = 31 * h + was(tenant, 0);
        h = 31 * h + was(tenant, 1);
        h = 31 * h + ask(tenant);
        h = 31 * h + chance(5, tenant, 0);
        h = 31 * h + chance(5, tenant, 1);
        return h;
    }

    private long digestBest(long before) {
        long h = before;
        for (int what = 0; what <= 2; what++) {
            h = 31 * h + best.part(what);
        }
        return h;
    }

    // ---- what several calls share

    private static boolean within(int v, int least, int most) {
        return v >= least && v <= most;
    }

    private static boolean isMonth(int month) {
        return within(month, 0, LAST);
    }

    private boolean isTenant(int tenant) {
        return tenant >= 0 && tenant < told.size;
    }

    private int found(int number) {
        finding = number;
        return -10 - number;
    }

    private void textChanged() {
        told.takeFrom(text);
        houseChanged();
    }

    private void houseChanged() {
        courseKnown = false;
        settledByKnown = false;
    }

    private Course courseTold() {
        if (!courseKnown) {
            course.run(told, events, ALL, room);
            courseKnown = true;
        }
        return course;
    }

    private void planWage(int tenant) {
        best.clear();
        others.copyOf(told);
        for (int w = 0; w < WAGES; w++) {
            others.wage[tenant] = w;
            trial.run(others, events, ALL, room);
            best.offer(w, trial.settledInAll(), trial.fallsInAll());
        }
    }

    private void planSort(int tenant) {
        best.clear();
        others.copyOf(told);
        for (int sort = 0; sort < SORTS; sort++) {
            others.sort[tenant] = sort;
            trial.run(others, events, ALL, room);
            best.offer(sort, trial.settledInAll(), trial.fallsInAll());
        }
    }

    private void planRoom() {
        best.clear();
        for (int r = 1; r <= MOST; r++) {
            trial.run(told, events, ALL, r);
            best.offer(r, trial.settledInAll(), trial.fallsInAll());
        }
    }

    /** The EVENTS of SPARE, as bits; NONE. */
    private int sparedEvents() {
        int all = (1 << events.size) - 1;
        if (settledWith(all) == 0) {
            return 0;
        }
        for (int a = 0; a < events.size; a++) {
            if (settledWith(all & ~(1 << a)) == 0) {
                return 1 << a;
            }
        }
        for (int a = 0; a < events.size; a++) {
            for (int b = a + 1; b < events.size; b++) {
                int both = 1 << a | 1 << b;
                if (settledWith(all & ~both) == 0) {
                    return both;
                }
            }
        }
        return NONE;
    }

    /** Who is SETTLED, as bits, if only these EVENTS are. */
    private int settledWith(int with) {
        if (!settledByKnown) {
            Arrays.fill(settledBy, NONE);
            settledByKnown = true;
        }
        if (settledBy[with] < 0) {
            trial.run(told, events, with, room);
            settledBy[with] = trial.settledBits();
        }
        return settledBy[with];
    }

    /** The place of the i-th bit (0 on) that is set; NONE. */
    private static int bitPlace(int bits, int i) {
        int ahead = 0;
        for (int place = 0; place < MOST; place++) {
            if ((bits >> place & 1) != 0) {
                if (ahead == i) {
                    return place;
                }
                ahead++;
            }
        }
        return NONE;
    }

    /** WAGES of one, as bits; what all of them show comes to views. */
    private int seenWages(int tenant) {
        int bits = 0;
        others.copyOf(told);
        for (int w = 0; w < WAGES; w++) {
            others.wage[tenant] = w;
            trial.run(others, events, ALL, room);
            if (seen.comesOut(trial)) {
                bits |= 1 << w;
            }
            for (int m = 0; m < MONTHS; m++) {
                views[w * MONTHS + m] = trial.view(m);
            }
        }
        return bits;
    }

    private int seenSorts(int tenant) {
        int bits = 0;
        others.copyOf(told);
        for (int sort = 0; sort < SORTS; sort++) {
            others.sort[tenant] = sort;
            trial.run(others, events, ALL, room);
            if (seen.comesOut(trial)) {
                bits |= 1 << sort;
            }
        }
        return bits;
    }

    /** The greatest number of these WAGES by which a MONTH looks the same. */
    private int greatestAlike(int wages, int month) {
        int greatest = 0;
        for (int w = 0; w < WAGES; w++) {
            int alike = 0;
            for (int o = 0; o < WAGES; o++) {
                if ((wages >> o & 1) != 0 && views[o * MONTHS + month] == views[w * MONTHS + month]) {
                    alike++;
                }
            }
            if ((wages >> w & 1) != 0) {
                greatest = Math.max(greatest, alike);
            }
        }
        return greatest;
    }

    /** Of 16 to the number of EVENTS: by how many just these are. */
    private long weight(int c, int with) {
        long product = 1;
        for (int e = 0; e < events.size; e++) {
            product *= (with >> e & 1) != 0 ? c : 16 - c;
        }
        return product;
    }

    /** At least 1, so that it may divide. */
    private static long commonDivisor(long a, long b) {
        long x = a;
        long y = b;
        for (int step = 0; step < 200 && y > 0; step++) {
            long rest = x % y;
            x = y;
            y = rest;
        }
        return Math.max(1, x);
    }

    // ---- the parts of the house

    /** The bytes that were typed. */
    private static final class Text {
        final int[] bytes = new int[BYTES];
        int size = 0;

        int faultPlace() {
            for (int i = 0; i < size; i++) {
                if (i / 4 >= MOST || !goesOn(i % 4, bytes[i])) {
                    return i;
                }
            }
            return size == 0 || size % 4 == 3 ? NONE : size;
        }

        /** Each of TENANTS takes three bytes and a ; so the place tells what is due. */
        private static boolean goesOn(int part, int b) {
            if (part == 0) {
                return sortOf(b) != NONE;
            }
            return part == 3 ? b == ';' : b >= '0' && b <= '9';
        }

        static int sortOf(int b) {
            switch (b) {
                case 'o':
                    return 0;
                case 'p':
                    return PREPAID;
                case 'c':
                    return CARRIED;
                case 'r':
                    return ROPED;
                default:
                    return NONE;
            }
        }
    }

    /** Who lives in a house: of what sort, what is paid at first, the WAGE. */
    private static final class Tenants {
        final int[] sort = new int[MOST];
        final int[] paid = new int[MOST];
        final int[] wage = new int[MOST];
        int size = 0;

        void takeFrom(Text text) {
            size = 0;
            if (text.faultPlace() != NONE) {
                return;
            }
            for (int i = 0; i + 2 < text.size && size < MOST; i += 4) {
                sort[size] = Text.sortOf(text.bytes[i]);
                paid[size] = text.bytes[i + 1] - '0';
                wage[size] = text.bytes[i + 2] - '0';
                size++;
            }
        }

        void copyOf(Tenants other) {
            size = other.size;
            for (int t = 0; t < MOST; t++) {
                sort[t] = other.sort[t];
                paid[t] = other.paid[t];
                wage[t] = other.wage[t];
            }
        }

        void drawLots(int first, int n) {
            int seed = first;
            size = n;
            for (int t = 0; t < n; t++) {
                seed = nextSeed(seed);
                sort[t] = lot(seed, SORTS);
                seed = nextSeed(seed);
                paid[t] = lot(seed, 10);
                seed = nextSeed(seed);
                wage[t] = lot(seed, WAGES);
            }
        }

        private static int nextSeed(int seed) {
            return 1103515245 * seed + 12345;
        }

        private static int lot(int seed, int m) {
            return m > 0 ? (seed >>> 16) % m : 0;
        }
    }

    /** EVENTS as told. */
    private static final class Events {
        final int[] kind = new int[MOST];
        final int[] month = new int[MOST];
        final int[] number = new int[MOST];
        int size = 0;

        static boolean canBe(int kind, int month, int number) {
            return within(kind, BILL, AUDIT) && isMonth(month) && within(number, 0, MOST - 1);
        }

        void add(int k, int m, int n) {
            kind[size] = k;
            month[size] = m;
            number[size] = n;
            size++;
        }
    }

    /** What was SEEN. */
    private static final class Seen {
        final int[] month = new int[MOST];
        final int[] tenant = new int[MOST];
        final int[] floor = new int[MOST];
        int size = 0;

        void add(int m, int t, int f) {
            month[size] = m;
            tenant[size] = t;
            floor[size] = f;
            size++;
        }

        boolean comesOut(Course course) {
            for (int i = 0; i < size; i++) {
                if (tenant[i] >= course.size || course.floorAt(month[i], tenant[i]) != floor[i]) {
                    return false;
                }
            }
            return true;
        }
    }

    /** The best plan so far; of like ones the one that was offered first stays. */
    private static final class Best {
        private int which;
        private int settled;
        private int falls;

        void clear() {
            which = NONE;
        }

        void offer(int one, int itsSettled, int itsFalls) {
            if (which == NONE || itsSettled < settled || itsSettled == settled && itsFalls < falls) {
                which = one;
                settled = itsSettled;
                falls = itsFalls;
            }
        }

        int part(int what) {
            if (what == 0) {
                return which;
            }
            return what == 1 ? settled : falls;
        }
    }

    /** A row of items of one FORM; its place is kept when it is LOST, to be used again. */
    private static final class Sheet {
        final int[] items = new int[ITEMS];
        int form = 0;
        int size = 0;
        boolean lost = true;

        void renew(int newForm, int n) {
            Arrays.fill(items, 0);
            form = newForm;
            size = n;
            lost = false;
        }

        int flaw(int asForm, int i) {
            if (lost) {
                return NULL;
            }
            if (form != asForm) {
                return CAST;
            }
            return i < 0 || i >= size ? INDEX : 0;
        }

        boolean hasSpan(int i, int n) {
            return i >= 0 && n >= 0 && i <= size && n <= size - i;
        }

        void put(int i, int v) {
            if (form == 0) {
                items[i] = (byte) v;
            } else if (form == 1) {
                items[i] = (short) v;
            } else {
                items[i] = v;
            }
        }
    }

    /** What comes of TENANTS and EVENTS in all MONTHS; its rows are used again for each run. */
    private static final class Course {
        int size = 0;
        final int[] settled = new int[MOST];
        final int[] falls = new int[MOST];
        final int[] passed = new int[MOST];
        private final int[] floors = new int[MONTHS * MOST];
        private final int[] lefts = new int[MONTHS * MOST];
        private final int[] fallers = new int[MONTHS];
        private final int[] floor = new int[MOST];
        private final int[] before = new int[MOST];
        private final int[] left = new int[MOST];
        private final int[] order = new int[MOST];
        private final int[] taken = new int[HIGHEST + 1];

        /** Only the EVENTS whose bits are in with are done. */
        void run(Tenants who, Events events, int with, int room) {
            begin(who);
            for (int m = 0; m < MONTHS; m++) {
                boolean audit = meetEvents(events, with, m);
                for (int t = 0; t < size; t++) {
                    before[t] = floor[t];
                    if (floor[t] != CELLAR) {
                        pay(t, who.sort[t], who.wage[t]);
                        settle(t, who.sort[t], m);
                    }
                }
                sortByLeft();
                giveFloors(room, audit);
                countFalls(m);
                keep(m);
            }
        }

        private void begin(Tenants who) {
            size = who.size;
            for (int t = 0; t < size; t++) {
                settled[t] = NONE;
                falls[t] = 0;
                passed[t] = 0;
                floor[t] = 0;
                left[t] = 3 * who.paid[t];
                order[t] = t;
            }
        }

        /** Whether there is an AUDIT. */
        private boolean meetEvents(Events events, int with, int month) {
            boolean audit = false;
            for (int e = 0; e < events.size; e++) {
                if (events.month[e] == month && (with >> e & 1) != 0) {
                    int t = events.number[e];
                    if (events.kind[e] == AUDIT) {
                        audit = true;
                    } else if (t < size && floor[t] != CELLAR) {
                        left[t] += events.kind[e] == GIFT ? 3 : -4;
                    }
                }
            }
            return audit;
        }

        private void pay(int t, int sort, int wage) {
            int rent = floor[t] / 2 + 1;
            if (sort == PREPAID) {
                rent--;
            } else if (sort == CARRIED) {
                rent = 0;
            }
            left[t] = Math.min(60, left[t] + (sort == CARRIED ? wage / 2 : wage) - rent);
        }

        private void settle(int t, int sort, int month) {
            if (left[t] < (sort == ROPED ? -6 : 0)) {
                settled[t] = month;
                floor[t] = CELLAR;
            }
        }

        /** The order of the MONTH ahead is nearly right, so few steps are needed. */
        private void sortByLeft() {
            for (int k = 1; k < size; k++) {
                int t = order[k];
                int place = k;
                while (place > 0 && isAhead(t, order[place - 1])) {
                    order[place] = order[place - 1];
                    place--;
                }
                order[place] = t;
            }
        }

        private boolean isAhead(int t, int other) {
            return left[t] > left[other] || left[t] == left[other] && t < other;
        }

        private void giveFloors(int room, boolean audit) {
            Arrays.fill(taken, 0);
            for (int k = 0; k < size; k++) {
                int t = order[k];
                if (floor[t] != CELLAR) {
                    floor[t] = roomBelow(wanted(t, audit), room);
                }
            }
        }

        private int wanted(int t, boolean audit) {
            if (left[t] < 0) {
                return 0;
            }
            return Math.min(HIGHEST, left[t] / 3 + (audit ? 0 : 1));
        }

        /** The highest FLOOR with ROOM, not above the one wanted; 0: the landing. */
        private int roomBelow(int wanted, int room) {
            for (int f = wanted; f > 0; f--) {
                if (taken[f] < room) {
                    taken[f]++;
                    return f;
                }
            }
            return 0;
        }

        private void countFalls(int month) {
            fallers[month] = 0;
            for (int t = 0; t < size; t++) {
                if (floor[t] <= before[t] - 2) {
                    fallers[month] |= 1 << t;
                    falls[t]++;
                    passed[t] += livingBetween(floor[t], before[t]);
                }
            }
        }

        private int livingBetween(int low, int high) {
            int n = 0;
            for (int t = 0; t < size; t++) {
                if (floor[t] > low && floor[t] < high) {
                    n++;
                }
            }
            return n;
        }

        private void keep(int month) {
            for (int t = 0; t < size; t++) {
                floors[month * MOST + t] = floor[t];
                lefts[month * MOST + t] = left[t];
            }
        }

        int floorAt(int month, int t) {
            return floors[month * MOST + t];
        }

        int leftAt(int month, int t) {
            return lefts[month * MOST + t];
        }

        boolean owes(int month, int t) {
            return floorAt(month, t) > Math.max(0, leftAt(month, t)) / 3;
        }

        boolean fellIn(int month, int t) {
            return (fallers[month] >> t & 1) != 0;
        }

        int whoLives(int month, int onFloor) {
            int bits = 0;
            for (int t = 0; t < size; t++) {
                if (floorAt(month, t) == onFloor) {
                    bits |= 1 << t;
                }
            }
            return bits;
        }

        int liftStops(int month) {
            int lived = 0;
            int owed = 0;
            for (int t = 0; t < size; t++) {
                int f = floorAt(month, t);
                if (f > 0) {
                    lived |= 1 << f;
                    owed |= owes(month, t) ? 1 << f : 0;
                }
            }
            return lived & ~owed;
        }

        /** Where all live, four bits for each. */
        int view(int month) {
            int all = 0;
            for (int t = 0; t < size; t++) {
                all = all << 4 | floorAt(month, t) - CELLAR;
            }
            return all;
        }

        int highestOf(int t) {
            int highest = CELLAR;
            for (int m = 0; m < MONTHS; m++) {
                highest = Math.max(highest, floorAt(m, t));
            }
            return highest;
        }

        int settledBits() {
            int bits = 0;
            for (int t = 0; t < size; t++) {
                if (settled[t] != NONE) {
                    bits |= 1 << t;
                }
            }
            return bits;
        }

        int settledInAll() {
            return Integer.bitCount(settledBits());
        }

        int fallsInAll() {
            int n = 0;
            for (int t = 0; t < size; t++) {
                n += falls[t];
            }
            return n;
        }

        int passedInAll() {
            int n = 0;
            for (int t = 0; t < size; t++) {
                n += passed[t];
            }
            return n;
        }

        int owedInAll() {
            int n = 0;
            for (int m = 0; m < MONTHS; m++) {
                for (int t = 0; t < size; t++) {
                    n += owes(m, t) ? 1 : 0;
                }
            }
            return n;
        }

        int topTenant() {
            int top = NONE;
            int highest = CELLAR;
            for (int t = 0; t < size; t++) {
                if (floorAt(LAST, t) > highest) {
                    highest = floorAt(LAST, t);
                    top = t;
                }
            }
            return top;
        }

        int heardFloors() {
            int lived = 0;
            for (int m = 0; m < MONTHS; m++) {
                for (int t = 0; t < size; t++) {
                    int f = floorAt(m, t);
                    lived |= f > 0 ? 1 << f : 0;
                }
            }
            int empty = 0;
            boolean livedAbove = false;
            for (int f = HIGHEST; f > 0; f--) {
                if ((lived >> f & 1) != 0) {
                    livedAbove = true;
                } else if (livedAbove) {
                    empty |= 1 << f;
                }
            }
            return empty;
        }

        int housedAtLast() {
            int n = 0;
            for (int t = 0; t < size; t++) {
                n += floorAt(LAST, t) > 0 ? 1 : 0;
            }
            return n;
        }
    }
}
