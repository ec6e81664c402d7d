/**
 * Cows that are owed on: herds go round the hills by weddings, divorces call them back,
 * and what can't be paid at once is owed until a year pays it.
 *
 * Nothing is made after the constructor: what a call tries out runs on the herds of trial.
 */
public final class CowsOwed {
    public static final int NONE = -1, UNKNOWN = -101, OUTSIDE = -102, STATE = -103, FULL = -104;

    private static final int KIND_CLAN = 0, KIND_PROUD = 1, KIND_POOR = 2, KIND_CAREFUL = 3, KIND_KINGS = 4;
    private static final int KINDS = 5;
    private static final int LEAST_CLANS = 2, MOST_CLANS = 4;
    private static final int MOST_LETTERS = 16, MOST_WEDDINGS = 12, MOST_PLANS = 4, MOST_TOLD = 6;
    private static final int MOST_CODE = 126, MOST_RATE = 9, MOST_ASKED = 20, MOST_AGES = 40;
    private static final int MOST_GROWN = 99;
    private static final int NET_ZERO = 1000;
    private static final int FIRST_PLACE = 10;
    /** How many orders four plans have. */
    private static final int MOST_ORDERS = 24;

    private static final int[] CLAN_PARTS = {0, 1, 2, 3, 4, 5, 6, 10, 11, 12, 13};
    private static final int WEDDING_PARTS = 4, COUNTS = 10;
    private static final long DIGEST_START = 967L, DIGEST_FACTOR = 31L;

    private final Clan[] kinds;
    private final Clan[] clans;
    private final Page page;
    private final Times now;
    private final Times kept;
    private final Herds trial;
    private boolean hasImage;
    private int timesRead;

    public CowsOwed() {
        Clan plain = new Clan();
        kinds = new Clan[] {plain, new Proud(), new Poor(), new Careful(), new Kings()};
        clans = new Clan[] {plain, plain, plain, plain};
        page = new Page();
        now = new Times(clans);
        kept = new Times(clans);
        trial = new Herds(clans);
        hasImage = false;
        timesRead = 0;
    }

    // ---- the hills

    public int letter(int code) {
        if (code < 1 || code > MOST_CODE) {
            return OUTSIDE;
        }
        if (page.size >= MOST_LETTERS) {
            return FULL;
        }
        return page.put(code);
    }

    public int blank() {
        int had = page.size;
        page.size = 0;
        return had;
    }

    public int fault() {
        return page.firstFault();
    }

    public int hills() {
        if (!page.isHills()) {
            return STATE;
        }
        int size = page.clanCount();
        now.begin(size, page.rateDigit());
        for (int i = 0; i < size; i++) {
            clans[i] = kindAt(page.kindOf(i));
            now.herds.cows[i] = page.herdOf(i);
        }
        page.size = 0;
        hasImage = false;
        timesRead++;
        return size;
    }

    public int clan(int clan, int what) {
        Herds herds = now.herds;
        if (!herds.knows(clan)) {
            return UNKNOWN;
        }
        if (what >= FIRST_PLACE && what < FIRST_PLACE + MOST_CLANS) {
            return herds.debts[clan][what - FIRST_PLACE];
        }
        switch (what) {
            case 0: return clans[clan].number();
            case 1: return herds.cows[clan];
            case 2: return herds.askedBy(clan);
            case 3: return herds.sparedBy(clan);
            case 4: return herds.owedBy(clan);
            case 5: return herds.owedTo(clan);
            case 6: return NET_ZERO + herds.cows[clan] + herds.owedTo(clan) - herds.owedBy(clan);
            default: return OUTSIDE;
        }
    }

    public int as(int clan, int kind) {
        if (!now.herds.knows(clan)) {
            return UNKNOWN;
        }
        if (kind < 0 || kind >= KINDS) {
            return OUTSIDE;
        }
        return isOfKind(clans[clan], kind) ? clan : NONE;
    }

    public int rate(int rate) {
        if (!isRate(rate)) {
            return OUTSIDE;
        }
        if (!hasHills()) {
            return STATE;
        }
        int was = now.herds.price;
        now.herds.price = rate;
        return was;
    }

    // ---- weddings, years

    public int wed(int his, int hers) {
        if (!now.herds.knowsCouple(his, hers)) {
            return UNKNOWN;
        }
        if (now.weddings.size >= MOST_WEDDINGS) {
            return FULL;
        }
        int asked = now.herds.marry(his, hers);
        return now.weddings.note(his, hers, asked);
    }

    public int wedding(int wedding, int what) {
        Weddings weddings = now.weddings;
        if (!weddings.knows(wedding)) {
            return UNKNOWN;
        }
        switch (what) {
            case 0: return weddings.his[wedding];
            case 1: return weddings.hers[wedding];
            case 2: return weddings.asked[wedding];
            case 3: return weddings.undone[wedding];
            default: return OUTSIDE;
        }
    }

    public int divorce(int wedding) {
        Weddings weddings = now.weddings;
        if (!weddings.knows(wedding)) {
            return UNKNOWN;
        }
        if (weddings.undone[wedding] != 0) {
            return STATE;
        }
        weddings.undone[wedding] = 1;
        return now.herds.pay(weddings.hers[wedding], weddings.his[wedding], weddings.asked[wedding]);
    }

    public int year() {
        if (!hasHills()) {
            return STATE;
        }
        now.herds.passYear();
        now.years++;
        return now.herds.allOwed();
    }

    public int settled() {
        return hasHills() ? now.herds.leastLed() : STATE;
    }

    // ---- what shall be

    public int plan(int his, int hers) {
        if (!now.herds.knowsCouple(his, hers)) {
            return UNKNOWN;
        }
        if (now.plans.size >= MOST_PLANS) {
            return FULL;
        }
        return now.plans.note(his, hers);
    }

    public int dream() {
        int were = now.plans.size;
        now.plans.size = 0;
        return were;
    }

    public int order(int what) {
        boolean isPlace = what >= FIRST_PLACE && what < FIRST_PLACE + MOST_PLANS;
        if (what != 0 && !isPlace) {
            return OUTSIDE;
        }
        if (!hasHills()) {
            return STATE;
        }
        now.plans.findOrder(now.herds, trial);
        return isPlace ? now.plans.bestAt(what - FIRST_PLACE) : now.plans.leastOwed;
    }

    public int high() {
        return hasHills() ? now.plans.highestRate(now.herds, trial) : STATE;
    }

    // ---- what is told

    public int tell(int rate, int asked) {
        if (!isRate(rate) || asked < 1 || asked > MOST_ASKED) {
            return OUTSIDE;
        }
        if (now.told.size >= MOST_TOLD) {
            return FULL;
        }
        return now.told.note(rate, asked);
    }

    public int forget() {
        int was = now.told.size;
        now.told.size = 0;
        return was;
    }

    public int which() {
        return now.told.kindsLeft(kinds);
    }

    public int ask() {
        return now.told.nextRate(kinds);
    }

    public int ages(int years, int seed, int what) {
        if (years < 1 || years > MOST_AGES || seed < 0 || what < 0 || what > 2) {
            return OUTSIDE;
        }
        if (!hasHills()) {
            return STATE;
        }
        trial.copyFrom(now.herds);
        int last = trial.live(years, seed);
        switch (what) {
            case 0: return trial.allOwed();
            case 1: return trial.allCows();
            default: return last;
        }
    }

    // ---- what is told of all

    public int image() {
        if (!hasHills()) {
            return STATE;
        }
        kept.copyFrom(now);
        hasImage = true;
        return kept.years;
    }

    public int restore() {
        if (!hasImage) {
            return STATE;
        }
        now.copyFrom(kept);
        return now.years;
    }

    public int count(int what) {
        switch (what) {
            case 0: return now.herds.size;
            case 1: return now.herds.price;
            case 2: return now.herds.allCows();
            case 3: return now.herds.allOwed();
            case 4: return now.weddings.size;
            case 5: return now.years;
            case 6: return now.plans.size;
            case 7: return now.told.size;
            case 8: return page.size;
            case 9: return timesRead;
            default: return OUTSIDE;
        }
    }

    public long digest() {
        long h = DIGEST_START;
        for (int clan = 0; clan < now.herds.size; clan++) {
            for (int part : CLAN_PARTS) {
                h = mixed(h, clan(clan, part));
            }
        }
        for (int wedding = 0; wedding < now.weddings.size; wedding++) {
            for (int part = 0; part < WEDDING_PARTS; part++) {
                h = mixed(h, wedding(wedding, part));
            }
        }
        if (hasHills()) {
            h = mixedShallBe(h);
        }
        h = mixed(h, which());
        h = mixed(h, ask());
        for (int place = 0; place < page.size; place++) {
            h = mixed(h, page.codes[place]);
        }
        for (int what = 0; what < COUNTS; what++) {
            h = mixed(h, count(what));
        }
        return h;
    }

    private long mixedShallBe(long start) {
        long h = mixed(start, now.herds.leastLed());
        now.plans.findOrder(now.herds, trial);
        h = mixed(h, now.plans.leastOwed);
        for (int place = 0; place < MOST_PLANS; place++) {
            h = mixed(h, now.plans.bestAt(place));
        }
        return mixed(h, now.plans.highestRate(now.herds, trial));
    }

    private static long mixed(long h, long number) {
        return DIGEST_FACTOR * h + number;
    }

    private boolean hasHills() {
        return now.herds.size > 0;
    }

    private Clan kindAt(int kind) {
        return kind >= 0 && kind < kinds.length ? kinds[kind] : kinds[0];
    }

    private static boolean isRate(int rate) {
        return rate >= 1 && rate <= MOST_RATE;
    }

    private static boolean isOfKind(Clan clan, int kind) {
        switch (kind) {
            case KIND_CLAN: return true;
            case KIND_PROUD: return clan instanceof Proud;
            case KIND_POOR: return clan instanceof Poor;
            case KIND_CAREFUL: return clan instanceof Careful;
            case KIND_KINGS: return clan instanceof Kings;
            default: return false;
        }
    }

    /** What a clan of a kind does; it has no herd of its own, so that one of each kind is enough. */
    private static class Clan {
        int number() {
            return KIND_CLAN;
        }

        int asks(int rate) {
            return rate;
        }

        int spares(int herd) {
            return herd;
        }
    }

    private static class Proud extends Clan {
        int number() {
            return KIND_PROUD;
        }

        int asks(int rate) {
            return rate + 1;
        }
    }

    private static final class Poor extends Clan {
        int number() {
            return KIND_POOR;
        }

        int asks(int rate) {
            return Math.max(1, rate - 1);
        }
    }

    private static final class Careful extends Clan {
        int number() {
            return KIND_CAREFUL;
        }

        int spares(int herd) {
            return herd > 0 ? herd - 1 : 0;
        }
    }

    private static final class Kings extends Proud {
        int number() {
            return KIND_KINGS;
        }

        int asks(int rate) {
            return 2 * super.asks(rate);
        }
    }

    /** The letters that came, and what hills they may be; a clan has three places: kind, herd, mark. */
    private static final class Page {
        private static final String KIND_LETTERS = "cpowk";
        private static final int CLAN_WIDTH = 3;
        private static final int AT_KIND = 0, AT_HERD = 1, AT_MARK = 2, AT_RATE = 3, AT_END = 4, WRONG = 5;

        final int[] codes = new int[MOST_LETTERS];
        int size = 0;

        int put(int code) {
            codes[size] = code;
            size++;
            return size;
        }

        int firstFault() {
            int at = AT_KIND;
            for (int place = 0; place < size; place++) {
                at = behind(at, codes[place], (place + 1) / CLAN_WIDTH);
                if (at == WRONG) {
                    return place;
                }
            }
            return size;
        }

        /** What stands behind a letter, if it may stand where it does with so many clans ahead of it. */
        private static int behind(int at, int code, int clansAhead) {
            switch (at) {
                case AT_KIND: return kindOfLetter(code) == NONE ? WRONG : AT_HERD;
                case AT_HERD: return code >= '0' && code <= '9' ? AT_MARK : WRONG;
                case AT_MARK: return behindMark(code, clansAhead);
                case AT_RATE: return code >= '1' && code <= '5' ? AT_END : WRONG;
                default: return WRONG;
            }
        }

        private static int behindMark(int code, int clansAhead) {
            if (code == ',' && clansAhead < MOST_CLANS) {
                return AT_KIND;
            }
            if (code == ';' && clansAhead >= LEAST_CLANS) {
                return AT_RATE;
            }
            return WRONG;
        }

        private static int kindOfLetter(int code) {
            return KIND_LETTERS.indexOf((char) code);
        }

        /** Without a fault, ';' stands last but one only when the rate has come. */
        boolean isHills() {
            return size >= 2 && firstFault() == size && codes[size - 2] == ';';
        }

        int clanCount() {
            return size / CLAN_WIDTH;
        }

        int kindOf(int clan) {
            return kindOfLetter(codes[clan * CLAN_WIDTH]);
        }

        int herdOf(int clan) {
            return codes[clan * CLAN_WIDTH + 1] - '0';
        }

        int rateDigit() {
            return size < 1 ? 0 : codes[size - 1] - '0';
        }
    }

    /** The herds, the rate and who owes whom; the clans are those of the hills, shared by all herds. */
    private static final class Herds {
        private static final long DRAW_FACTOR = 1103515245L, DRAW_STEP = 12345L, DRAW_REST = 2147483648L;
        private static final int DRAW_SHIFT = 65536;

        private final Clan[] clans;
        final int[] cows = new int[MOST_CLANS];
        /** What the first owes the second. */
        final int[][] debts = new int[MOST_CLANS][MOST_CLANS];
        int size = 0;
        int price = 0;

        Herds(Clan[] clans) {
            this.clans = clans;
        }

        void begin(int clanCount, int rate) {
            size = clanCount;
            price = rate;
            for (int i = 0; i < MOST_CLANS; i++) {
                cows[i] = 0;
                for (int j = 0; j < MOST_CLANS; j++) {
                    debts[i][j] = 0;
                }
            }
        }

        void copyFrom(Herds other) {
            size = other.size;
            price = other.price;
            for (int i = 0; i < MOST_CLANS; i++) {
                cows[i] = other.cows[i];
                for (int j = 0; j < MOST_CLANS; j++) {
                    debts[i][j] = other.debts[i][j];
                }
            }
        }

        boolean knows(int clan) {
            return clan >= 0 && clan < size;
        }

        boolean knowsCouple(int his, int hers) {
            return knows(his) && knows(hers) && his != hers;
        }

        int askedBy(int clan) {
            return clans[clan].asks(price);
        }

        int sparedBy(int clan) {
            return clans[clan].spares(cows[clan]);
        }

        /** How many cows were asked. */
        int marry(int his, int hers) {
            int asked = clans[hers].asks(price);
            pay(his, hers, asked);
            return asked;
        }

        /** How many cows are paid at once; the rest is owed. */
        int pay(int from, int to, int due) {
            int led = Math.min(clans[from].spares(cows[from]), due);
            cows[from] -= led;
            cows[to] += led;
            debts[from][to] += due - led;
            return led;
        }

        void passYear() {
            for (int i = 0; i < size; i++) {
                cows[i] = grown(cows[i]);
            }
            for (int from = 0; from < size; from++) {
                for (int to = 0; to < size; to++) {
                    payDebt(from, to);
                }
            }
        }

        /** All of it falls due; what can't be paid is owed anew. */
        private void payDebt(int from, int to) {
            int due = debts[from][to];
            debts[from][to] = 0;
            pay(from, to, due);
        }

        private static int grown(int herd) {
            return Math.max(herd, Math.min(MOST_GROWN, herd + herd / 2));
        }

        int owedBy(int clan) {
            int sum = 0;
            for (int to = 0; to < size; to++) {
                sum += debts[clan][to];
            }
            return sum;
        }

        int owedTo(int clan) {
            int sum = 0;
            for (int from = 0; from < size; from++) {
                sum += debts[from][clan];
            }
            return sum;
        }

        int allOwed() {
            int sum = 0;
            for (int clan = 0; clan < size; clan++) {
                sum += owedBy(clan);
            }
            return sum;
        }

        int allCows() {
            int sum = 0;
            for (int clan = 0; clan < size; clan++) {
                sum += cows[clan];
            }
            return sum;
        }

        /** Each clan must be given what it is owed beyond what it owes, and no more is needed. */
        int leastLed() {
            int sum = 0;
            for (int clan = 0; clan < size; clan++) {
                sum += Math.max(0, owedTo(clan) - owedBy(clan));
            }
            return sum;
        }

        /** So many years, each with a wedding by draws ahead of it: the seed then. */
        int live(int years, int firstSeed) {
            int seed = firstSeed;
            for (int i = 0; i < years; i++) {
                seed = nextSeed(seed);
                int his = drawn(seed);
                seed = nextSeed(seed);
                int hers = drawn(seed);
                if (knowsCouple(his, hers)) {
                    marry(his, hers);
                }
                passYear();
            }
            return seed;
        }

        private static int nextSeed(int seed) {
            return (int) ((DRAW_FACTOR * seed + DRAW_STEP) % DRAW_REST);
        }

        private int drawn(int seed) {
            return size < 1 ? NONE : seed / DRAW_SHIFT % size;
        }
    }

    private static final class Weddings {
        final int[] his = new int[MOST_WEDDINGS];
        final int[] hers = new int[MOST_WEDDINGS];
        final int[] asked = new int[MOST_WEDDINGS];
        final int[] undone = new int[MOST_WEDDINGS];
        int size = 0;

        boolean knows(int wedding) {
            return wedding >= 0 && wedding < size;
        }

        int note(int his, int hers, int asked) {
            this.his[size] = his;
            this.hers[size] = hers;
            this.asked[size] = asked;
            undone[size] = 0;
            size++;
            return size - 1;
        }

        void copyFrom(Weddings other) {
            size = other.size;
            for (int i = 0; i < MOST_WEDDINGS; i++) {
                his[i] = other.his[i];
                hers[i] = other.hers[i];
                asked[i] = other.asked[i];
                undone[i] = other.undone[i];
            }
        }
    }

    private static final class Plans {
        private final int[] his = new int[MOST_PLANS];
        private final int[] hers = new int[MOST_PLANS];
        private final int[] tried = new int[MOST_PLANS];
        private final int[] best = new int[MOST_PLANS];
        int size = 0;
        int leastOwed = 0;

        int note(int his, int hers) {
            this.his[size] = his;
            this.hers[size] = hers;
            size++;
            return size;
        }

        void copyFrom(Plans other) {
            size = other.size;
            for (int i = 0; i < MOST_PLANS; i++) {
                his[i] = other.his[i];
                hers[i] = other.hers[i];
            }
        }

        /** Only a lesser one takes the place of the best, so of like orders the first by numbers stays. */
        void findOrder(Herds from, Herds trial) {
            startOrders();
            boolean more = true;
            for (int i = 0; i < MOST_ORDERS && more; i++) {
                trial.copyFrom(from);
                marryInOrder(trial);
                int owed = trial.allOwed();
                if (i == 0 || owed < leastOwed) {
                    leastOwed = owed;
                    System.arraycopy(tried, 0, best, 0, MOST_PLANS);
                }
                more = nextOrder();
            }
        }

        private void startOrders() {
            for (int i = 0; i < MOST_PLANS; i++) {
                tried[i] = i;
            }
        }

        private void marryInOrder(Herds trial) {
            for (int i = 0; i < size; i++) {
                int plan = tried[i];
                trial.marry(his[plan], hers[plan]);
            }
        }

        /** The next order by numbers: the last place that can rise takes the next greater of those behind it. */
        private boolean nextOrder() {
            int rise = size - 2;
            while (rise >= 0 && tried[rise] > tried[rise + 1]) {
                rise--;
            }
            if (rise < 0) {
                return false;
            }
            int next = size - 1;
            while (next > rise && tried[next] < tried[rise]) {
                next--;
            }
            swapTried(rise, next);
            for (int low = rise + 1, up = size - 1; low < up; low++, up--) {
                swapTried(low, up);
            }
            return true;
        }

        private void swapTried(int one, int other) {
            int plan = tried[one];
            tried[one] = tried[other];
            tried[other] = plan;
        }

        int bestAt(int place) {
            return place >= 0 && place < size ? best[place] : NONE;
        }

        int highestRate(Herds from, Herds trial) {
            startOrders();
            for (int rate = MOST_RATE; rate >= 1; rate--) {
                trial.copyFrom(from);
                trial.price = rate;
                marryInOrder(trial);
                if (!owesMore(trial, from)) {
                    return rate;
                }
            }
            return NONE;
        }

        private static boolean owesMore(Herds then, Herds before) {
            for (int clan = 0; clan < before.size; clan++) {
                if (then.owedBy(clan) > before.owedBy(clan)) {
                    return true;
                }
            }
            return false;
        }
    }

    /** What a clan of an unknown kind asked. */
    private static final class Told {
        private final int[] rates = new int[MOST_TOLD];
        private final int[] asked = new int[MOST_TOLD];
        int size = 0;

        int note(int rate, int cows) {
            rates[size] = rate;
            asked[size] = cows;
            size++;
            return size;
        }

        void copyFrom(Told other) {
            size = other.size;
            for (int i = 0; i < MOST_TOLD; i++) {
                rates[i] = other.rates[i];
                asked[i] = other.asked[i];
            }
        }

        int kindsLeft(Clan[] kinds) {
            int bits = 0;
            for (int kind = 0; kind < kinds.length; kind++) {
                if (canBe(kinds[kind])) {
                    bits |= 1 << kind;
                }
            }
            return bits;
        }

        private boolean canBe(Clan kind) {
            for (int i = 0; i < size; i++) {
                if (kind.asks(rates[i]) != asked[i]) {
                    return false;
                }
            }
            return true;
        }

        int nextRate(Clan[] kinds) {
            int left = kindsLeft(kinds);
            if (left == 0) {
                return NONE;
            }
            int best = NONE;
            int fewest = kinds.length + 1;
            for (int rate = 1; rate <= MOST_RATE; rate++) {
                int most = mostLeft(kinds, left, rate);
                if (most < fewest) {
                    fewest = most;
                    best = rate;
                }
            }
            return best;
        }

        /** How many of the kinds are left at worst, when one asks at this rate. */
        private static int mostLeft(Clan[] kinds, int left, int rate) {
            int most = 0;
            for (int kind = 0; kind < kinds.length; kind++) {
                if (has(left, kind)) {
                    most = Math.max(most, alike(kinds, left, rate, kinds[kind].asks(rate)));
                }
            }
            return most;
        }

        private static int alike(Clan[] kinds, int left, int rate, int cows) {
            int sum = 0;
            for (int kind = 0; kind < kinds.length; kind++) {
                if (has(left, kind) && kinds[kind].asks(rate) == cows) {
                    sum++;
                }
            }
            return sum;
        }

        private static boolean has(int bits, int kind) {
            return (bits >> kind & 1) == 1;
        }
    }

    /** All that an image keeps. */
    private static final class Times {
        final Herds herds;
        final Weddings weddings = new Weddings();
        final Plans plans = new Plans();
        final Told told = new Told();
        int years = 0;

        Times(Clan[] clans) {
            herds = new Herds(clans);
        }

        void begin(int clanCount, int rate) {
            herds.begin(clanCount, rate);
            weddings.size = 0;
            plans.size = 0;
            told.size = 0;
            years = 0;
        }

        void copyFrom(Times other) {
            herds.copyFrom(other.herds);
            weddings.copyFrom(other.weddings);
            plans.copyFrom(other.plans);
            told.copyFrom(other.told);
            years = other.years;
        }
    }
}
