import java.util.Arrays;

/** Coasts, years and logs told as texts on a tape, and what can be asked of them. */
public final class GodWeathers {
    public static final int NONE = -1;

    private static final int NO_SUCH = -2;

    private static final int WEATHERS = 8;
    private static final int ALL_WEATHERS = 255;
    private static final int GODPARENTS = 3;
    private static final int MOST_CHILDREN = 6;
    private static final int MOST_WORKS = 6;
    private static final int WORK_SETS = 64;
    private static final int MOST_DEEDS = 40;
    private static final int MOST_FACTS = 8;
    private static final int MOST_BYTES = 600;
    private static final int NOBODY = 8;
    private static final int NOBODY_ASKS = 99;

    private static final int COASTS = 0;
    private static final int YEARS = 1;
    private static final int LOGS = 2;
    private static final int SORTS = 3;
    private static final int MOST_OF_A_SORT = 2;
    private static final int IMAGES = 3;

    private static final int ASK = 0;
    private static final int THANK = 1;
    private static final int COME = 2;
    private static final int DO = 3;
    private static final int DAY = 4;

    private static final int HEARD = 0;

    private final Told told = new Told();
    private final Told[] images = new Told[IMAGES];
    private final Reader reader = new Reader();
    private final Days days = new Days();
    private final Asking asking = new Asking();
    private final Boats seating = new Boats();
    private final Sky sky = new Sky();

    public GodWeathers() {
    }

    public int feed(int a, int b, int c, int d, int e) {
        if (told.length + 20 > MOST_BYTES) {
            return NONE;
        }
        told.put(a);
        told.put(b);
        told.put(c);
        told.put(d);
        told.put(e);
        return told.length;
    }

    public int end(int n) {
        if (n < 0 || n > told.length) {
            return NONE;
        }
        told.length = n;
        return n;
    }

    public int text(int sort, int at) {
        int length = told.length;
        // The tape is taken by every call, also by one that reads no text.
        told.length = 0;
        told.fault = 0;
        told.place = NONE;
        int slot = told.slotFor(sort, at);
        if (slot < 0) {
            return NO_SUCH;
        }
        reader.read(told.tape, length, sort);
        told.fault = reader.fault;
        told.place = reader.faultPlace;
        if (reader.fault != 0) {
            return NONE;
        }
        told.keep(reader, sort, slot);
        return slot;
    }

    public int fault(int what) {
        if (what == 0) {
            return told.fault;
        }
        return what == 1 ? told.place : NONE;
    }

    public int coast(int coast, int what) {
        Coast c = told.coastAt(coast);
        return c == null ? NONE : c.look(what);
    }

    public int deed(int year, int k, int what) {
        Year y = told.yearAt(year);
        if (y == null) {
            return NO_SUCH;
        }
        if (k == NONE) {
            return what == 0 ? y.size : NO_SUCH;
        }
        return y.look(k, what);
    }

    public int till(int coast, int year) {
        Coast c = told.coastAt(coast);
        Year y = told.yearAt(year);
        if (c == null || y == null) {
            return NONE;
        }
        return days.live(c, y, y.size);
    }

    public int state(int coast, int year, int n, int what) {
        Coast c = told.coastAt(coast);
        Year y = told.yearAt(year);
        if (c == null || y == null || n < 0 || n > y.size) {
            return NONE;
        }
        if (days.live(c, y, n) < n) {
            return NONE;
        }
        return days.look(what);
    }

    public int call(int coast, int work, int k) {
        Coast c = told.coastWithWork(coast, work);
        if (c == null) {
            return NONE;
        }
        int need = c.need[work];
        int many = Integer.bitCount(need);
        if (k < NONE || k >= many || !asking.assign(c, need)) {
            return NONE;
        }
        return k == NONE ? many : asking.askers[k];
    }

    public int feast(int coast, int k) {
        return bestRow(told.coastAt(coast), k, false);
    }

    public long odds(int coast, int work, int asked, boolean under) {
        Coast c = told.coastWithWork(coast, work);
        if (c == null || !isWeatherBits(asked)) {
            return NONE;
        }
        int open = c.need[work] & ~asked;
        return leastTerms(c.chances(open), c.chancesUnder(open), under);
    }

    public int village(int coast, boolean who) {
        Coast c = told.coastAt(coast);
        if (c == null) {
            return NONE;
        }
        int best = Crew.smallestVillage(c);
        return who ? best : Integer.bitCount(best);
    }

    public int boats(int coast, int n) {
        Coast c = told.coastAt(coast);
        if (c == null || n < 1 || n > MOST_CHILDREN) {
            return NONE;
        }
        return seating.fewest(c, n);
    }

    public int headland(int coast, int n, boolean first) {
        Coast c = told.coastAt(coast);
        if (c == null || n < 0 || n > 3) {
            return NO_SUCH;
        }
        if (first && n == 0) {
            return NONE;
        }
        return first ? asking.opening(c, n) : asking.outcome(c, n);
    }

    public long waits(int p, int c, int n, int what) {
        if (p < 0 || p > 10 || c < 0 || c > 20 || n < 1 || n > 9 || what < 0 || what > 2) {
            return NONE;
        }
        // The mean cost of the days still to come, in parts of 'parts'; without a day to come, asking is all there is.
        long parts = 1;
        long cost = 0;
        boolean asks = true;
        for (int day = 1; day <= n; day++) {
            asks = day == 1 || c * parts <= parts + cost;
            cost = (10 - p) * (asks ? c * parts : parts + cost);
            parts *= 10;
        }
        if (what == 2) {
            return asks ? 1 : 0;
        }
        return leastTerms(cost, parts, what == 1);
    }

    public int fact(int log, int k, int what) {
        Log l = told.logAt(log);
        if (l == null) {
            return NO_SUCH;
        }
        if (k == NONE) {
            return what == 0 ? l.size : NO_SUCH;
        }
        return l.look(k, what);
    }

    public int fits(int log, int what) {
        Log l = told.logAt(log);
        if (l == null) {
            return NO_SUCH;
        }
        int many = l.howManyHave(0);
        if (what == 0) {
            return many;
        }
        if (what == 1) {
            return many == 0 ? NONE : l.inAll();
        }
        if (what == 2) {
            return many == 0 ? NONE : l.bestQuestion();
        }
        return what < 10 ? NO_SUCH : l.fitting(what - 10);
    }

    public int whose(int coast, int log) {
        Coast c = told.coastAt(coast);
        Log l = told.logAt(log);
        if (c == null || l == null) {
            return NONE;
        }
        int bits = 0;
        for (int child = 0; child < c.children; child++) {
            if (l.allows(c.godparents[child])) {
                bits |= 1 << child;
            }
        }
        return bits;
    }

    public int drawn(int coast, int seed, int n, int what) {
        Coast c = told.coastAt(coast);
        if (c == null || n < 0 || n > 60) {
            return NONE;
        }
        days.draw(c, seed, n);
        return days.look(what);
    }

    public int kin(int coast, int a, int b) {
        Coast c = told.coastWithChild(coast, a);
        if (c == null || !c.hasChild(b)) {
            return NONE;
        }
        return Crew.shared(c, a, b);
    }

    public int clan(int coast, int what) {
        Coast c = told.coastAt(coast);
        if (c == null) {
            return NO_SUCH;
        }
        switch (what) {
            case 0:
                return Crew.howManyClans(c);
            case 1:
                return Crew.twins(c);
            case 2:
                return Integer.bitCount(Crew.largestRaft(c));
            case 3:
                return Crew.largestRaft(c);
            case 4:
                return Crew.mostCouples(c);
            case 5:
                return Sky.rivals(c);
            case 6:
                return Integer.bitCount(Sky.largestCalm(c));
            case 7:
                return Sky.largestCalm(c);
            default:
                return what >= 10 && c.hasChild(what - 10) ? Crew.clanOf(c, what - 10) : NO_SUCH;
        }
    }

    public int lone(int coast, boolean work) {
        Coast c = told.coastAt(coast);
        if (c == null) {
            return NO_SUCH;
        }
        return work ? c.dearest() : Crew.loners(c);
    }

    public int near(int coast, int weathers) {
        Coast c = told.coastAt(coast);
        if (c == null || !isWeatherBits(weathers)) {
            return NONE;
        }
        int bits = 0;
        for (int child = 0; child < c.children; child++) {
            if (Integer.bitCount(c.godparents[child] & weathers) >= 2) {
                bits |= 1 << child;
            }
        }
        return bits;
    }

    public int ladder(int coast, int k) {
        Coast c = told.coastAt(coast);
        if (c == null || k < NONE || k >= WEATHERS) {
            return NONE;
        }
        int length = sky.longestLadder(c);
        if (k == NONE) {
            return length;
        }
        return k < length ? sky.bestRow[k] : NONE;
    }

    public long storm(int coast, int n, boolean under) {
        Coast c = told.coastAt(coast);
        if (c == null || n < 0 || n > WEATHERS) {
            return NONE;
        }
        return leastTerms(sky.waysToCome(c, n), Sky.ALL_WAYS, under);
    }

    public int lack(int coast, int work) {
        Coast c = told.coastWithWork(coast, work);
        if (c == null) {
            return NONE;
        }
        return c.need[work] & ~Crew.weathersOf(c, c.allChildren());
    }

    public int busy(int coast, int k) {
        return bestRow(told.coastAt(coast), k, true);
    }

    public long lots(int coast, int work, boolean under) {
        Coast c = told.coastWithWork(coast, work);
        if (c == null) {
            return NONE;
        }
        long rows = 1;
        for (int child = 0; child < c.children; child++) {
            rows *= GODPARENTS;
        }
        return leastTerms(Asking.luckyRows(c, c.need[work]), rows, under);
    }

    public int heir(int coast, boolean much) {
        Coast c = told.coastAt(coast);
        if (c == null || c.children == 0) {
            return NONE;
        }
        asking.begin(c, false);
        int heir = NONE;
        int least = 0;
        for (int child = 0; child < c.children; child++) {
            int rest = asking.most(c.allChildren() & ~(1 << child));
            if (heir == NONE || rest < least) {
                heir = child;
                least = rest;
            }
        }
        return much ? least : heir;
    }

    public int plan(int coast, boolean never) {
        Coast c = told.coastAt(coast);
        if (c == null) {
            return NONE;
        }
        long sets = asking.setsOfOneDay(c);
        int can = unionOf(sets);
        return never ? c.allWorks() & ~can : fewestDays(sets, can);
    }

    public int levy(int coast, int n) {
        Coast c = told.coastAt(coast);
        if (c == null || n < 0 || n > MOST_WORKS) {
            return NONE;
        }
        return c.dearestApart(n);
    }

    public int ready(int coast, int weathers) {
        Coast c = told.coastAt(coast);
        if (c == null || !isWeatherBits(weathers)) {
            return NONE;
        }
        return c.worksWith(weathers);
    }

    public long hope(int coast, int work, boolean under) {
        Coast c = told.coastWithWork(coast, work);
        if (c == null) {
            return NONE;
        }
        long over = c.chances(c.need[work]);
        if (over == 0) {
            return NONE;
        }
        return leastTerms(c.chancesUnder(c.need[work]), over, under);
    }

    public int pair(int coast, boolean much) {
        Coast c = told.coastAt(coast);
        if (c == null || c.children < 2) {
            return NONE;
        }
        asking.begin(c, false);
        int couple = NONE;
        int most = 0;
        for (int a = 0; a < c.children; a++) {
            for (int b = a + 1; b < c.children; b++) {
                int worth = asking.most(1 << a | 1 << b);
                if (couple == NONE || worth > most) {
                    couple = 10 * a + b;
                    most = worth;
                }
            }
        }
        return much ? most : couple;
    }

    public int seat(int coast, int n, int child) {
        Coast c = told.coastWithChild(coast, child);
        if (c == null || n < 1 || n > MOST_CHILDREN) {
            return NONE;
        }
        seating.fewest(c, n);
        return seating.boatOf[child];
    }

    public int tide(int coast, int v, boolean which) {
        Coast c = told.coastAt(coast);
        if (c == null || v < 0 || v > 99) {
            return NONE;
        }
        int best = NONE;
        for (int here = 0; here <= ALL_WEATHERS; here++) {
            boolean fewer = best == NONE || Integer.bitCount(here) < Integer.bitCount(best);
            if (fewer && c.worthOf(c.worksWith(here)) >= v) {
                best = here;
            }
        }
        return which || best == NONE ? best : Integer.bitCount(best);
    }

    public int first(int coast, int child, boolean who) {
        Coast c = told.coastWithChild(coast, child);
        if (c == null) {
            return NONE;
        }
        int touchy = NONE;
        int least = 0;
        for (int w = 0; w < WEATHERS; w++) {
            if (c.isGodparent(child, w) && (touchy == NONE || c.patience[w] < least)) {
                touchy = w;
                least = c.patience[w];
            }
        }
        return who ? touchy : least + 1;
    }

    public int kept(int coast, int child, int n) {
        Coast c = told.coastWithChild(coast, child);
        if (c == null || n < 1 || n > 99) {
            return NONE;
        }
        int thanks = 0;
        for (int w = 0; w < WEATHERS; w++) {
            if (c.isGodparent(child, w) && c.patience[w] > 0) {
                // Thanked as late as may be, one bears as many days again as its patience.
                thanks += (n - 1) / c.patience[w];
            }
        }
        return thanks;
    }

    public int after(int coast, int year, int what) {
        Coast c = told.coastAt(coast);
        Year y = told.yearAt(year);
        if (c == null || y == null) {
            return NO_SUCH;
        }
        days.live(c, y, y.size);
        switch (what) {
            case 0:
                return days.offence;
            case 1:
                return days.whom;
            case 2:
                return days.mostHere;
            case 3:
                return days.eager();
            case 4:
                return days.thanks;
            case 5:
                return c.allWorks() & ~days.done;
            default:
                return NO_SUCH;
        }
    }

    public long share(int log, int weather, boolean under) {
        Log l = told.logAt(log);
        if (l == null || !isWeather(weather)) {
            return NONE;
        }
        int all = l.howManyHave(0);
        if (all == 0) {
            return NONE;
        }
        return leastTerms(l.howManyHave(1 << weather), all, under);
    }

    public int count(int sort) {
        return isSort(sort) ? told.counts[sort] : NO_SUCH;
    }

    public boolean image(int k) {
        if (k < 0 || k >= IMAGES) {
            return false;
        }
        if (images[k] == null) {
            images[k] = new Told();
        }
        images[k].copyFrom(told);
        return true;
    }

    public boolean again(int k) {
        if (k < 0 || k >= IMAGES || images[k] == null) {
            return false;
        }
        told.copyFrom(images[k]);
        return true;
    }

    private int bestRow(Coast c, int k, boolean byNumber) {
        if (c == null || k != NONE && !c.hasChild(k)) {
            return NONE;
        }
        asking.begin(c, byNumber);
        int most = asking.most(c.allChildren());
        return k == NONE ? most : asking.bestRow[k];
    }

    private static boolean isSort(int sort) {
        return sort >= 0 && sort < SORTS;
    }

    private static boolean isWeather(int w) {
        return w >= 0 && w < WEATHERS;
    }

    private static boolean isWeatherBits(int bits) {
        return bits >= 0 && bits <= ALL_WEATHERS;
    }

    private static boolean has(int bits, int place) {
        return (bits >> place & 1) != 0;
    }

    /** One side of a fraction in least terms; of two zeros, zero. */
    private static long leastTerms(long over, long under, boolean wantUnder) {
        long a = over;
        long b = under;
        for (int step = 0; step < 200 && b != 0; step++) {
            long rest = a % b;
            a = b;
            b = rest;
        }
        if (a == 0) {
            return 0;
        }
        return wantUnder ? under / a : over / a;
    }

    private static int unionOf(long sets) {
        int union = 0;
        for (int set = 0; set < WORK_SETS; set++) {
            if ((sets >>> set & 1L) != 0) {
                union |= set;
            }
        }
        return union;
    }

    private static int fewestDays(long sets, int can) {
        long reached = 1L;
        int day = 0;
        while (day < MOST_WORKS && (reached >>> can & 1L) == 0) {
            reached = oneDayMore(reached, sets);
            day++;
        }
        return day;
    }

    private static long oneDayMore(long reached, long sets) {
        long wider = 0;
        for (int before = 0; before < WORK_SETS; before++) {
            if ((reached >>> before & 1L) != 0) {
                for (int set = 0; set < WORK_SETS; set++) {
                    if ((sets >>> set & 1L) != 0) {
                        wider |= 1L << (before | set);
                    }
                }
            }
        }
        return wider;
    }

    /** Weathers, children and works; sets of them are bits. */
    private static final class Coast {
        final int[] chance = new int[WEATHERS];
        final int[] patience = new int[WEATHERS];
        final int[] opposing = new int[WEATHERS];
        final int[] godparents = new int[MOST_CHILDREN];
        final int[] worth = new int[MOST_WORKS];
        final int[] need = new int[MOST_WORKS];
        int children;
        int works;

        void clear() {
            Arrays.fill(chance, 3);
            Arrays.fill(patience, 3);
            Arrays.fill(opposing, 0);
            Arrays.fill(godparents, 0);
            Arrays.fill(worth, 0);
            Arrays.fill(need, 0);
            children = 0;
            works = 0;
        }

        void copyFrom(Coast other) {
            System.arraycopy(other.chance, 0, chance, 0, WEATHERS);
            System.arraycopy(other.patience, 0, patience, 0, WEATHERS);
            System.arraycopy(other.opposing, 0, opposing, 0, WEATHERS);
            System.arraycopy(other.godparents, 0, godparents, 0, MOST_CHILDREN);
            System.arraycopy(other.worth, 0, worth, 0, MOST_WORKS);
            System.arraycopy(other.need, 0, need, 0, MOST_WORKS);
            children = other.children;
            works = other.works;
        }

        int look(int what) {
            if (what == 0) {
                return children;
            }
            if (what == 1) {
                return works;
            }
            if (what < 10 || what > 69) {
                return NONE;
            }
            int n = what % 10;
            switch (what / 10) {
                case 1:
                    return isWeather(n) ? chance[n] : NONE;
                case 2:
                    return isWeather(n) ? patience[n] : NONE;
                case 3:
                    return isWeather(n) ? opposing[n] : NONE;
                case 4:
                    return hasChild(n) ? godparents[n] : NONE;
                case 5:
                    return hasWork(n) ? worth[n] : NONE;
                default:
                    return hasWork(n) ? need[n] : NONE;
            }
        }

        boolean hasChild(int child) {
            return child >= 0 && child < children;
        }

        boolean hasWork(int work) {
            return work >= 0 && work < works;
        }

        int allChildren() {
            return (1 << children) - 1;
        }

        int allWorks() {
            return (1 << works) - 1;
        }

        boolean isGodparent(int child, int w) {
            return hasChild(child) && isWeather(w) && has(godparents[child], w);
        }

        int hereOnceComes(int here, int w) {
            return isWeather(w) ? here & ~opposing[w] | 1 << w : here;
        }

        int worksWith(int here) {
            int bits = 0;
            for (int work = 0; work < works; work++) {
                if ((need[work] & ~here) == 0) {
                    bits |= 1 << work;
                }
            }
            return bits;
        }

        int worthOf(int bits) {
            int sum = 0;
            for (int work = 0; work < works; work++) {
                if (has(bits, work)) {
                    sum += worth[work];
                }
            }
            return sum;
        }

        /** How likely all of these come, in parts of chancesUnder. */
        long chances(int weathers) {
            long product = 1;
            for (int w = 0; w < WEATHERS; w++) {
                if (has(weathers, w)) {
                    product *= chance[w];
                }
            }
            return product;
        }

        long chancesUnder(int weathers) {
            long product = 1;
            for (int w = 0; w < WEATHERS; w++) {
                if (has(weathers, w)) {
                    product *= 10;
                }
            }
            return product;
        }

        int dearest() {
            int best = NONE;
            for (int work = 0; work < works; work++) {
                if (best == NONE || worth[work] > worth[best]) {
                    best = work;
                }
            }
            return best;
        }

        int dearestApart(int many) {
            int best = NONE;
            for (int bits = 0; bits <= allWorks(); bits++) {
                if (Integer.bitCount(bits) == many && needApart(bits)) {
                    best = Math.max(best, worthOf(bits));
                }
            }
            return best;
        }

        private boolean needApart(int bits) {
            int union = 0;
            for (int work = 0; work < works; work++) {
                if (has(bits, work)) {
                    if ((union & need[work]) != 0) {
                        return false;
                    }
                    union |= need[work];
                }
            }
            return true;
        }
    }

    private static final class Year {
        final int[] kind = new int[MOST_DEEDS];
        final int[] one = new int[MOST_DEEDS];
        final int[] two = new int[MOST_DEEDS];
        int size;

        void copyFrom(Year other) {
            System.arraycopy(other.kind, 0, kind, 0, MOST_DEEDS);
            System.arraycopy(other.one, 0, one, 0, MOST_DEEDS);
            System.arraycopy(other.two, 0, two, 0, MOST_DEEDS);
            size = other.size;
        }

        void add(int deedKind, int a, int b) {
            if (size < MOST_DEEDS) {
                kind[size] = deedKind;
                one[size] = a;
                two[size] = b;
                size++;
            }
        }

        int look(int k, int what) {
            if (k < 0 || k >= size) {
                return NO_SUCH;
            }
            switch (what) {
                case 0:
                    return kind[k];
                case 1:
                    return one[k];
                case 2:
                    return two[k];
                default:
                    return NO_SUCH;
            }
        }
    }

    private static final class Log {
        final int[] kind = new int[MOST_FACTS];
        final int[] weather = new int[MOST_FACTS];
        int size;

        void copyFrom(Log other) {
            System.arraycopy(other.kind, 0, kind, 0, MOST_FACTS);
            System.arraycopy(other.weather, 0, weather, 0, MOST_FACTS);
            size = other.size;
        }

        void add(int factKind, int w) {
            if (size < MOST_FACTS) {
                kind[size] = factKind;
                weather[size] = w;
                size++;
            }
        }

        int look(int k, int what) {
            if (k < 0 || k >= size) {
                return NO_SUCH;
            }
            if (what == 0) {
                return kind[k];
            }
            return what == 1 ? weather[k] : NO_SUCH;
        }

        boolean allows(int trio) {
            for (int k = 0; k < size; k++) {
                if (has(trio, weather[k]) != (kind[k] == HEARD)) {
                    return false;
                }
            }
            return Integer.bitCount(trio) == GODPARENTS;
        }

        /** How many threes fit and have all of these weathers. */
        int howManyHave(int weathers) {
            int many = 0;
            for (int trio = 0; trio <= ALL_WEATHERS; trio++) {
                if ((weathers & ~trio) == 0 && allows(trio)) {
                    many++;
                }
            }
            return many;
        }

        int inAll() {
            int common = ALL_WEATHERS;
            for (int trio = 0; trio <= ALL_WEATHERS; trio++) {
                if (allows(trio)) {
                    common &= trio;
                }
            }
            return common;
        }

        int bestQuestion() {
            int all = howManyHave(0);
            int best = NONE;
            int least = 0;
            for (int w = 0; w < WEATHERS; w++) {
                int with = howManyHave(1 << w);
                int greater = Math.max(with, all - with);
                if (best == NONE || greater < least) {
                    best = w;
                    least = greater;
                }
            }
            return best;
        }

        /** The k-th three that fits, by numbers. */
        int fitting(int k) {
            int before = 0;
            for (int trio = 0; trio <= ALL_WEATHERS; trio++) {
                if (allows(trio)) {
                    if (before == k) {
                        return trio;
                    }
                    before++;
                }
            }
            return NO_SUCH;
        }
    }

    /** All that an image holds. */
    private static final class Told {
        final byte[] tape = new byte[MOST_BYTES];
        final Coast[] coasts = {new Coast(), new Coast()};
        final Year[] years = {new Year(), new Year()};
        final Log[] logs = {new Log(), new Log()};
        final int[] counts = new int[SORTS];
        int length;
        int fault;
        int place = NONE;

        void copyFrom(Told other) {
            System.arraycopy(other.tape, 0, tape, 0, MOST_BYTES);
            for (int i = 0; i < MOST_OF_A_SORT; i++) {
                coasts[i].copyFrom(other.coasts[i]);
                years[i].copyFrom(other.years[i]);
                logs[i].copyFrom(other.logs[i]);
            }
            System.arraycopy(other.counts, 0, counts, 0, SORTS);
            length = other.length;
            fault = other.fault;
            place = other.place;
        }

        void put(int number) {
            for (int shift = 24; shift >= 0 && length < MOST_BYTES; shift -= 8) {
                tape[length] = (byte) (number >>> shift);
                length++;
            }
        }

        /** Where a text is to stand; below 0 if it can stand nowhere. */
        int slotFor(int sort, int at) {
            if (!isSort(sort)) {
                return NO_SUCH;
            }
            if (at == NONE) {
                return counts[sort] < MOST_OF_A_SORT ? counts[sort] : NO_SUCH;
            }
            return at >= 0 && at < counts[sort] ? at : NO_SUCH;
        }

        void keep(Reader read, int sort, int slot) {
            if (!isSort(sort) || slot < 0 || slot >= MOST_OF_A_SORT) {
                return;
            }
            if (sort == COASTS) {
                coasts[slot].copyFrom(read.coast);
            } else if (sort == YEARS) {
                years[slot].copyFrom(read.year);
            } else {
                logs[slot].copyFrom(read.log);
            }
            counts[sort] = Math.max(counts[sort], slot + 1);
        }

        Coast coastAt(int at) {
            return at >= 0 && at < counts[COASTS] ? coasts[at] : null;
        }

        Coast coastWithChild(int at, int child) {
            Coast c = coastAt(at);
            return c != null && c.hasChild(child) ? c : null;
        }

        Coast coastWithWork(int at, int work) {
            Coast c = coastAt(at);
            return c != null && c.hasWork(work) ? c : null;
        }

        Year yearAt(int at) {
            return at >= 0 && at < counts[YEARS] ? years[at] : null;
        }

        Log logAt(int at) {
            return at >= 0 && at < counts[LOGS] ? logs[at] : null;
        }
    }

    /** Reads a text into a coast, a year or a log of its own, so that a fault leaves what was told before. */
    private static final class Reader {
        private static final int CHILD_LINE = 0;
        private static final int WEATHER_LINE = 1;
        private static final int OPPOSE_LINE = 2;
        private static final int NEEDS_LINE = 3;
        private static final int PATIENCE_LINE = 4;
        private static final int WORK_LINE = 5;
        private static final int DEED_LINES = 6;
        private static final int FACT_LINES = 11;
        private static final int MOST_NUMBERS = 3;
        private static final int[] NUMBERS_OF = {3, 2, 2, 2, 2, 1, 2, 2, 1, 1, 0, 1, 1};
        private static final int[] HIGHEST = {
            7, 7, 7, 7, 10, 0, 7, 7, 0, 5, 7, 0, 7, 9, 0, 20, 0, 0,
            5, 7, 0, 5, 7, 0, 7, 0, 0, 5, 0, 0, 0, 0, 0,
            7, 0, 0, 7, 0, 0};

        private static final int WRONG = 0;
        private static final int END = 1;
        private static final int WORD = 2;
        private static final int NUMBER = 3;
        private static final int STOP = 4;

        private static final int NO_TEXT = 1;
        private static final int CANNOT_BE = 2;
        private static final int TOO_MANY = 3;
        private static final int NOT_THERE = 4;

        final Coast coast = new Coast();
        final Year year = new Year();
        final Log log = new Log();
        int fault;
        int faultPlace;
        private final int[] numbers = new int[MOST_NUMBERS];
        private final int[] places = new int[MOST_NUMBERS];
        private byte[] tape;
        private int length;
        private int sort;
        private int worksToldOf;
        private int next;
        private int token;
        private int place;
        private int value;

        void read(byte[] bytes, int size, int textSort) {
            tape = bytes;
            length = Math.min(size, bytes.length);
            sort = textSort;
            next = 0;
            fault = 0;
            faultPlace = NONE;
            worksToldOf = 0;
            coast.clear();
            year.size = 0;
            log.size = 0;
            takeToken();
            for (int line = 0; line <= length && token != END && fault != NO_TEXT; line++) {
                readLine();
            }
            if (fault == 0 && (worksToldOf & ~coast.allWorks()) != 0) {
                note(NOT_THERE, length);
            }
        }

        private void readLine() {
            int start = place;
            int line = lineOfWord();
            if (line == NONE) {
                getStuck();
                return;
            }
            takeToken();
            for (int i = 0; i < NUMBERS_OF[line]; i++) {
                if (token != NUMBER) {
                    getStuck();
                    return;
                }
                numbers[i] = value;
                places[i] = place;
                takeToken();
            }
            if (token != STOP) {
                getStuck();
                return;
            }
            takeToken();
            if (fault == 0) {
                judge(line, start);
            }
        }

        /** No text goes on with this token, which outdoes every other fault. */
        private void getStuck() {
            fault = NO_TEXT;
            faultPlace = place;
        }

        private void note(int which, int where) {
            fault = which;
            faultPlace = where;
        }

        /** Lines are judged in the order of their places, so the first fault found is the first by place. */
        private void judge(int line, int start) {
            if (isFull(line)) {
                note(TOO_MANY, start);
                return;
            }
            for (int i = 0; i < NUMBERS_OF[line]; i++) {
                if (!canBe(line, i)) {
                    note(CANNOT_BE, places[i]);
                    return;
                }
            }
            if (line < DEED_LINES) {
                tellOfCoast(line);
            } else if (line < FACT_LINES) {
                int many = NUMBERS_OF[line];
                year.add(line - DEED_LINES, many > 0 ? numbers[0] : NONE, many > 1 ? numbers[1] : NONE);
            } else {
                log.add(line - FACT_LINES, numbers[0]);
            }
        }

        private boolean isFull(int line) {
            if (line >= FACT_LINES) {
                return log.size >= MOST_FACTS;
            }
            if (line >= DEED_LINES) {
                return year.size >= MOST_DEEDS;
            }
            return line == CHILD_LINE && coast.children >= MOST_CHILDREN
                || line == WORK_LINE && coast.works >= MOST_WORKS;
        }

        private boolean canBe(int line, int i) {
            if (numbers[i] > HIGHEST[line * MOST_NUMBERS + i]) {
                return false;
            }
            if (line == PATIENCE_LINE && i == 1) {
                return numbers[i] >= 1;
            }
            if (line == CHILD_LINE || line == OPPOSE_LINE) {
                for (int before = 0; before < i; before++) {
                    if (numbers[before] == numbers[i]) {
                        return false;
                    }
                }
            }
            return true;
        }

        private void tellOfCoast(int line) {
            int a = numbers[0];
            int b = numbers[1];
            switch (line) {
                case CHILD_LINE:
                    coast.godparents[coast.children] = 1 << a | 1 << b | 1 << numbers[2];
                    coast.children++;
                    break;
                case WEATHER_LINE:
                    coast.chance[a] = b;
                    break;
                case OPPOSE_LINE:
                    coast.opposing[a] |= 1 << b;
                    coast.opposing[b] |= 1 << a;
                    break;
                case NEEDS_LINE:
                    coast.need[a] |= 1 << b;
                    worksToldOf |= 1 << a;
                    break;
                case PATIENCE_LINE:
                    coast.patience[a] = b;
                    break;
                default:
                    coast.worth[coast.works] = a;
                    coast.works++;
                    break;
            }
        }

        private int lineOfWord() {
            if (token != WORD) {
                return NONE;
            }
            if (sort == COASTS) {
                return coastLine();
            }
            return sort == YEARS ? deedLine() : factLine();
        }

        private int coastLine() {
            if (isWord("child")) {
                return CHILD_LINE;
            }
            if (isWord("weather")) {
                return WEATHER_LINE;
            }
            if (isWord("oppose")) {
                return OPPOSE_LINE;
            }
            if (isWord("needs")) {
                return NEEDS_LINE;
            }
            if (isWord("patience")) {
                return PATIENCE_LINE;
            }
            return isWord("work") ? WORK_LINE : NONE;
        }

        private int deedLine() {
            if (isWord("ask")) {
                return DEED_LINES + ASK;
            }
            if (isWord("thank")) {
                return DEED_LINES + THANK;
            }
            if (isWord("come")) {
                return DEED_LINES + COME;
            }
            if (isWord("do")) {
                return DEED_LINES + DO;
            }
            return isWord("day") ? DEED_LINES + DAY : NONE;
        }

        private int factLine() {
            if (isWord("heard")) {
                return FACT_LINES + HEARD;
            }
            return isWord("deaf") ? FACT_LINES + 1 : NONE;
        }

        private boolean isWord(String word) {
            if (next - place != word.length()) {
                return false;
            }
            for (int i = 0; i < word.length(); i++) {
                if (tape[place + i] != word.charAt(i)) {
                    return false;
                }
            }
            return true;
        }

        private void takeToken() {
            while (next < length && (tape[next] == 10 || tape[next] == 32)) {
                next++;
            }
            place = next;
            if (next >= length) {
                token = END;
            } else if (isLetter(next)) {
                takeWord();
            } else if (isDigit(next)) {
                takeNumber();
            } else {
                token = tape[next] == ';' ? STOP : WRONG;
                next++;
            }
        }

        private void takeWord() {
            while (next < length && isLetter(next)) {
                next++;
            }
            token = WORD;
        }

        private void takeNumber() {
            value = 0;
            while (next < length && isDigit(next)) {
                value = value * 10 + tape[next] - '0';
                next++;
            }
            token = next - place <= 2 ? NUMBER : WRONG;
        }

        private boolean isLetter(int at) {
            return tape[at] >= 'a' && tape[at] <= 'z';
        }

        private boolean isDigit(int at) {
            return tape[at] >= '0' && tape[at] <= '9';
        }
    }

    /** A year as it goes on, deed by deed. */
    private static final class Days {
        int done;
        int offence;
        int whom;
        int mostHere;
        int thanks;
        private final int[] offended = new int[MOST_CHILDREN];
        private final int[] forgotten = new int[MOST_CHILDREN * WEATHERS];
        private final int[] asks = new int[MOST_CHILDREN];
        private Coast coast;
        private int day;
        private int here;
        private int askedToday;
        private int barns;
        private int seed;

        private void begin(Coast ofCoast) {
            coast = ofCoast;
            day = 0;
            here = 0;
            done = 0;
            askedToday = 0;
            barns = 0;
            offence = NONE;
            whom = NONE;
            mostHere = 0;
            thanks = 0;
            Arrays.fill(offended, 0);
            Arrays.fill(forgotten, 0);
            Arrays.fill(asks, 0);
        }

        /** Does the first deeds of a year, as many as are wanted and can be: how many. */
        int live(Coast ofCoast, Year year, int wanted) {
            begin(ofCoast);
            int deeds = Math.min(wanted, year.size);
            for (int k = 0; k < deeds; k++) {
                if (!deal(year.kind[k], year.one[k], year.two[k], k)) {
                    return k;
                }
                mostHere = Math.max(mostHere, Integer.bitCount(here));
            }
            return deeds;
        }

        void draw(Coast ofCoast, int firstSeed, int times) {
            begin(ofCoast);
            seed = firstSeed;
            for (int k = 0; k < times; k++) {
                drawDeed(k);
            }
        }

        private void drawDeed(int k) {
            int lot = drawBelow(8);
            if (lot <= 3) {
                if (coast.children > 0) {
                    int child = drawBelow(coast.children);
                    deal(lot == 3 ? THANK : ASK, child, godparentAt(child, drawBelow(GODPARENTS)), k);
                }
            } else if (lot == 4) {
                deal(COME, drawBelow(WEATHERS), NONE, k);
            } else if (lot == 5) {
                if (coast.works > 0) {
                    deal(DO, drawBelow(coast.works), NONE, k);
                }
            } else {
                deal(DAY, NONE, NONE, k);
            }
        }

        private int drawBelow(int n) {
            seed = seed * 1103515245 + 12345;
            return n > 0 ? (seed >>> 16) % n : 0;
        }

        private int godparentAt(int child, int at) {
            int before = 0;
            for (int w = 0; w < WEATHERS; w++) {
                if (coast.isGodparent(child, w)) {
                    if (before == at) {
                        return w;
                    }
                    before++;
                }
            }
            return NONE;
        }

        private boolean deal(int kind, int a, int b, int k) {
            switch (kind) {
                case ASK:
                    return ask(a, b);
                case THANK:
                    return thank(a, b);
                case COME:
                    here = coast.hereOnceComes(here, a);
                    return true;
                case DO:
                    return work(a);
                default:
                    passDay(k);
                    return true;
            }
        }

        private boolean ask(int child, int w) {
            if (!coast.isGodparent(child, w) || has(askedToday, child) || has(offended[child], w)) {
                return false;
            }
            askedToday |= 1 << child;
            asks[child]++;
            here = coast.hereOnceComes(here, w);
            forgotten[child * WEATHERS + w] = 0;
            return true;
        }

        private boolean thank(int child, int w) {
            if (!coast.isGodparent(child, w)) {
                return false;
            }
            thanks++;
            forgotten[child * WEATHERS + w] = 0;
            offended[child] &= ~(1 << w);
            return true;
        }

        private boolean work(int work) {
            if (!coast.hasWork(work) || has(done, work) || (coast.need[work] & ~here) != 0) {
                return false;
            }
            done |= 1 << work;
            return true;
        }

        private void passDay(int k) {
            here = 0;
            askedToday = 0;
            day++;
            for (int child = 0; child < coast.children; child++) {
                for (int w = 0; w < WEATHERS; w++) {
                    if (coast.isGodparent(child, w) && !has(offended[child], w)) {
                        forget(child, w, k);
                    }
                }
            }
        }

        private void forget(int child, int w, int k) {
            int at = child * WEATHERS + w;
            forgotten[at]++;
            if (forgotten[at] <= coast.patience[w]) {
                return;
            }
            offended[child] |= 1 << w;
            barns++;
            if (offence == NONE) {
                offence = k;
                whom = 10 * child + w;
            }
        }

        int eager() {
            int best = NONE;
            for (int child = 0; child < coast.children; child++) {
                if (asks[child] > (best == NONE ? 0 : asks[best])) {
                    best = child;
                }
            }
            return best;
        }

        int look(int what) {
            switch (what) {
                case 0:
                    return day;
                case 1:
                    return here;
                case 2:
                    return done;
                case 3:
                    return coast.worthOf(done);
                case 4:
                    return barns;
                case 5:
                    return askedToday;
                default:
                    return lookAtChild(what);
            }
        }

        private int lookAtChild(int what) {
            if (what < 100) {
                return what >= 10 && coast.hasChild(what - 10) ? offended[what - 10] : NONE;
            }
            int at = what - 100;
            boolean isOne = at < forgotten.length && coast.isGodparent(at / WEATHERS, at % WEATHERS);
            return isOne ? forgotten[at] : NONE;
        }
    }

    /** Who asks whom on one day, nobody being offended. */
    private static final class Asking {
        final int[] askers = new int[WEATHERS];
        final int[] bestRow = new int[MOST_CHILDREN];
        private final int[] row = new int[MOST_CHILDREN];
        private final int[] gain = new int[ALL_WEATHERS + 1];
        private final int[] seen = new int[(MOST_CHILDREN + 1) * (ALL_WEATHERS + 1)];
        private int walks;
        private Coast coast;
        private int crew;
        private int best;

        /** What each set of weathers is good for: works by number or by worth. */
        void begin(Coast ofCoast, boolean byNumber) {
            coast = ofCoast;
            for (int here = 0; here <= ALL_WEATHERS; here++) {
                int works = coast.worksWith(here);
                gain[here] = byNumber ? Integer.bitCount(works) : coast.worthOf(works);
            }
        }

        /** The most that these children gain; bestRow is the first row by which they do. */
        int most(int children) {
            crew = children;
            best = NONE;
            walks++;
            walk(0, 0);
            return best;
        }

        /** Rows are walked by numbers; where one was before with the same weathers, nothing can be better. */
        private void walk(int child, int here) {
            int node = child * (ALL_WEATHERS + 1) + here;
            if (child > MOST_CHILDREN || seen[node] == walks) {
                return;
            }
            seen[node] = walks;
            if (child >= coast.children) {
                arrive(here);
                return;
            }
            for (int w = 0; w < WEATHERS; w++) {
                if (has(crew, child) && coast.isGodparent(child, w)) {
                    row[child] = w;
                    walk(child + 1, coast.hereOnceComes(here, w));
                }
            }
            row[child] = NOBODY;
            walk(child + 1, here);
        }

        private void arrive(int here) {
            if (gain[here] > best) {
                best = gain[here];
                System.arraycopy(row, 0, bestRow, 0, MOST_CHILDREN);
            }
        }

        /** The sets of works that one day can do: bit s stands for the set s. */
        long setsOfOneDay(Coast ofCoast) {
            begin(ofCoast, true);
            most(coast.allChildren());
            long sets = 0;
            for (int here = 0; here <= ALL_WEATHERS; here++) {
                if (seen[coast.children * (ALL_WEATHERS + 1) + here] == walks) {
                    sets |= 1L << coast.worksWith(here);
                }
            }
            return sets;
        }

        /** In how many rows in which every child asks all of these are here in the end. */
        static int luckyRows(Coast coast, int need) {
            return luckyRowsFrom(coast, need, 0, 0);
        }

        private static int luckyRowsFrom(Coast coast, int need, int child, int here) {
            if (child >= coast.children) {
                return (need & ~here) == 0 ? 1 : 0;
            }
            int rows = 0;
            for (int w = 0; w < WEATHERS; w++) {
                if (coast.isGodparent(child, w)) {
                    rows += luckyRowsFrom(coast, need, child + 1, coast.hereOnceComes(here, w));
                }
            }
            return rows;
        }

        /** Whether each of these weathers can be asked by a child of its own; askers is the first row of them. */
        boolean assign(Coast ofCoast, int need) {
            coast = ofCoast;
            return assignFrom(need, 0, 0);
        }

        private boolean assignFrom(int need, int k, int taken) {
            if (need == 0) {
                return true;
            }
            int w = Integer.numberOfTrailingZeros(need);
            for (int child = 0; child < coast.children && k < WEATHERS; child++) {
                if (!has(taken, child) && coast.isGodparent(child, w)) {
                    askers[k] = child;
                    if (assignFrom(need & ~(1 << w), k + 1, taken | 1 << child)) {
                        return true;
                    }
                }
            }
            return false;
        }

        int outcome(Coast ofCoast, int turns) {
            begin(ofCoast, false);
            return playOn(turns, 0, 0, true);
        }

        int opening(Coast ofCoast, int turns) {
            int goal = outcome(ofCoast, turns);
            for (int child = 0; child < coast.children; child++) {
                for (int w = 0; w < WEATHERS; w++) {
                    if (coast.isGodparent(child, w)
                            && playOn(turns - 1, 1 << child, coast.hereOnceComes(0, w), false) == goal) {
                        return 10 * child + w;
                    }
                }
            }
            return NOBODY_ASKS;
        }

        private int playOn(int turns, int taken, int here, boolean forMost) {
            if (turns <= 0) {
                return gain[here];
            }
            int bestEnd = playOn(turns - 1, taken, here, !forMost);
            for (int child = 0; child < coast.children; child++) {
                for (int w = 0; w < WEATHERS && !has(taken, child); w++) {
                    if (coast.isGodparent(child, w)) {
                        int end = playOn(turns - 1, taken | 1 << child, coast.hereOnceComes(here, w), !forMost);
                        bestEnd = forMost ? Math.max(bestEnd, end) : Math.min(bestEnd, end);
                    }
                }
            }
            return bestEnd;
        }
    }

    /** Children by the godparents they share. */
    private static final class Crew {
        static int shared(Coast coast, int a, int b) {
            return Integer.bitCount(coast.godparents[a] & coast.godparents[b]);
        }

        static int weathersOf(Coast coast, int children) {
            int union = 0;
            for (int child = 0; child < coast.children; child++) {
                if (has(children, child)) {
                    union |= coast.godparents[child];
                }
            }
            return union;
        }

        static int smallestVillage(Coast coast) {
            int all = weathersOf(coast, coast.allChildren());
            int best = coast.allChildren();
            for (int bits = coast.allChildren(); bits >= 0; bits--) {
                if (weathersOf(coast, bits) == all && Integer.bitCount(bits) <= Integer.bitCount(best)) {
                    best = bits;
                }
            }
            return best;
        }

        static int largestRaft(Coast coast) {
            int best = 0;
            for (int bits = 0; bits <= coast.allChildren(); bits++) {
                int many = Integer.bitCount(bits);
                boolean apart = Integer.bitCount(weathersOf(coast, bits)) == GODPARENTS * many;
                if (apart && many > Integer.bitCount(best)) {
                    best = bits;
                }
            }
            return best;
        }

        static int clanOf(Coast coast, int child) {
            int bits = 1 << child;
            for (int round = 0; round < MOST_CHILDREN; round++) {
                int weathers = weathersOf(coast, bits);
                for (int other = 0; other < coast.children; other++) {
                    if ((coast.godparents[other] & weathers) != 0) {
                        bits |= 1 << other;
                    }
                }
            }
            return bits;
        }

        static int howManyClans(Coast coast) {
            int many = 0;
            for (int child = 0; child < coast.children; child++) {
                // A clan is counted at its least child.
                if (Integer.numberOfTrailingZeros(clanOf(coast, child)) == child) {
                    many++;
                }
            }
            return many;
        }

        static int twins(Coast coast) {
            int many = 0;
            for (int a = 0; a < coast.children; a++) {
                for (int b = a + 1; b < coast.children; b++) {
                    if (shared(coast, a, b) == GODPARENTS) {
                        many++;
                    }
                }
            }
            return many;
        }

        static int loners(Coast coast) {
            int bits = 0;
            for (int child = 0; child < coast.children; child++) {
                int others = weathersOf(coast, coast.allChildren() & ~(1 << child));
                if ((coast.godparents[child] & others) == 0) {
                    bits |= 1 << child;
                }
            }
            return bits;
        }

        static int mostCouples(Coast coast) {
            return mostCouplesFrom(coast, 0, 0);
        }

        /** How many couples there can be among the children from this one on that are not taken. */
        private static int mostCouplesFrom(Coast coast, int child, int taken) {
            if (child >= coast.children) {
                return 0;
            }
            int most = mostCouplesFrom(coast, child + 1, taken);
            for (int other = child + 1; other < coast.children && !has(taken, child); other++) {
                if (!has(taken, other) && shared(coast, child, other) == 0) {
                    most = Math.max(most, 1 + mostCouplesFrom(coast, child + 1, taken | 1 << other));
                }
            }
            return most;
        }
    }

    /** Children in boats, no two in one that share a godparent. */
    private static final class Boats {
        final int[] boatOf = new int[MOST_CHILDREN];
        private final int[] filled = new int[MOST_CHILDREN];
        private final int[] aboard = new int[MOST_CHILDREN];
        private Coast coast;
        private int room;

        /** How few boats do; boatOf is the first row by which they do. */
        int fewest(Coast ofCoast, int perBoat) {
            coast = ofCoast;
            room = perBoat;
            Arrays.fill(filled, 0);
            Arrays.fill(aboard, 0);
            for (int many = 0; many <= coast.children; many++) {
                // Where there is no way, all boats are empty again.
                if (board(0, 0, many)) {
                    return many;
                }
            }
            return coast.children;
        }

        /** Of boats that nobody is in yet only the first is tried: another would only be a later row. */
        private boolean board(int child, int used, int many) {
            if (child >= coast.children) {
                return true;
            }
            int weathers = coast.godparents[child];
            for (int boat = 0; boat <= used && boat < many; boat++) {
                if (filled[boat] < room && (aboard[boat] & weathers) == 0) {
                    filled[boat]++;
                    aboard[boat] |= weathers;
                    boatOf[child] = boat;
                    if (board(child + 1, Math.max(used, boat + 1), many)) {
                        return true;
                    }
                    filled[boat]--;
                    aboard[boat] &= ~weathers;
                }
            }
            return false;
        }
    }

    /** Weathers among themselves. */
    private static final class Sky {
        /** Ten for each weather, of which its chance is a share. */
        static final long ALL_WAYS = 100000000L;

        final int[] bestRow = new int[WEATHERS];
        private final int[] row = new int[WEATHERS];
        private final long[] ways = new long[WEATHERS + 1];
        private Coast coast;
        private int best;
        private int bound;

        static int rivals(Coast coast) {
            int twice = 0;
            for (int w = 0; w < WEATHERS; w++) {
                twice += Integer.bitCount(coast.opposing[w]);
            }
            return twice / 2;
        }

        static int largestCalm(Coast coast) {
            int best = 0;
            for (int bits = 0; bits <= ALL_WEATHERS; bits++) {
                if (Integer.bitCount(bits) > Integer.bitCount(best) && isCalm(coast, bits)) {
                    best = bits;
                }
            }
            return best;
        }

        private static boolean isCalm(Coast coast, int bits) {
            for (int w = 0; w < WEATHERS; w++) {
                if (has(bits, w) && (coast.opposing[w] & bits) != 0) {
                    return false;
                }
            }
            return true;
        }

        /** How long the longest row is in which each opposes the next; bestRow is the first such row. */
        int longestLadder(Coast ofCoast) {
            coast = ofCoast;
            best = 0;
            bound = 0;
            for (int w = 0; w < WEATHERS; w++) {
                bound += coast.opposing[w] != 0 ? 1 : 0;
            }
            for (int w = 0; w < WEATHERS; w++) {
                if (coast.opposing[w] != 0) {
                    climb(w, 1 << w, 1);
                }
            }
            return best;
        }

        /** Rows are climbed by numbers, so of equally long ones the first is kept; no longer one than the bound can be. */
        private void climb(int weather, int used, int length) {
            if (length > WEATHERS || best >= bound) {
                return;
            }
            row[length - 1] = weather;
            if (length > best) {
                best = length;
                System.arraycopy(row, 0, bestRow, 0, WEATHERS);
            }
            int open = coast.opposing[weather] & ~used;
            for (int w = 0; w < WEATHERS; w++) {
                if (has(open, w)) {
                    climb(w, used | 1 << w, length + 1);
                }
            }
        }

        /** In how many of ALL_WAYS, which are alike, this many weathers or more come. */
        long waysToCome(Coast ofCoast, int atLeast) {
            Arrays.fill(ways, 0L);
            ways[0] = 1;
            for (int w = 0; w < WEATHERS; w++) {
                int comes = ofCoast.chance[w];
                for (int many = WEATHERS; many >= 0; many--) {
                    long without = ways[many] * (10 - comes);
                    ways[many] = without + (many > 0 ? ways[many - 1] * comes : 0);
                }
            }
            long sum = 0;
            for (int many = Math.max(atLeast, 0); many <= WEATHERS; many++) {
                sum += ways[many];
            }
            return sum;
        }
    }
}
