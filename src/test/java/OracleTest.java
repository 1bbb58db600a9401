import java.math.BigInteger;
import java.util.ArrayList;
import java.util.List;
import java.util.Random;

/** Holds the class against the plainest counting there is, over many coasts, years and logs by chance. */
final class OracleTest {
    private static final Kit KIT = new Kit("OracleTest");
    private static final int COASTS = 600;

    private final Random chance;
    private final int children;
    private final int works;
    private final int[] odds = new int[8];
    private final int[] patience = new int[8];
    private final boolean[][] oppose = new boolean[8][8];
    private final int[] kids = new int[6];
    private final int[] worth = new int[6];
    private final int[] need = new int[6];
    private final String text;

    private OracleTest(long seed) {
        chance = new Random(seed);
        children = chance.nextInt(7);
        works = chance.nextInt(7);
        StringBuilder lines = new StringBuilder();
        for (int w = 0; w < 8; w++) {
            odds[w] = 3;
            patience[w] = 3;
            if (chance.nextBoolean()) {
                odds[w] = chance.nextInt(11);
                lines.append("weather ").append(w).append(' ').append(odds[w]).append(';');
            }
            if (chance.nextBoolean()) {
                patience[w] = 1 + chance.nextInt(chance.nextBoolean() ? 2 : 9);
                lines.append("patience ").append(w).append(' ').append(patience[w]).append(';');
            }
        }
        for (int n = chance.nextInt(chance.nextInt(4) == 0 ? 26 : 9); n > 0; n--) {
            int a = chance.nextInt(8);
            int b = (a + 1 + chance.nextInt(7)) % 8;
            oppose[a][b] = true;
            oppose[b][a] = true;
            lines.append("oppose ").append(a).append(' ').append(b).append(';');
        }
        int span = 3 + chance.nextInt(6);
        for (int c = 0; c < children; c++) {
            addChild(c, span, lines);
        }
        for (int k = 0; k < works; k++) {
            worth[k] = chance.nextInt(chance.nextBoolean() ? 4 : 21);
            lines.append("work ").append(worth[k]).append(';');
            for (int n = chance.nextInt(chance.nextInt(4) == 0 ? 9 : 4); n > 0; n--) {
                int w = chance.nextInt(8);
                need[k] |= 1 << w;
                lines.append("needs ").append(k).append(' ').append(w).append(';');
            }
        }
        text = lines.toString();
    }

    private void addChild(int c, int span, StringBuilder lines) {
        lines.append("child");
        int godparents = 0;
        while (Integer.bitCount(godparents) < 3) {
            int w = chance.nextInt(span);
            if ((godparents >> w & 1) == 0) {
                godparents |= 1 << w;
                lines.append(' ').append(w);
            }
        }
        lines.append(';');
        kids[c] = godparents;
    }

    public static void main(String[] args) {
        for (int seed = 0; seed < COASTS; seed++) {
            OracleTest oracle = new OracleTest(seed);
            if (oracle.text.length() <= 600) {
                oracle.compare(seed);
            }
        }
        waitsByCounting();
        KIT.finish();
    }

    private void compare(int seed) {
        GodWeathers x = new GodWeathers();
        String name = "coast " + seed + ": ";
        KIT.due(name + "text", Kit.tell(x, 0, text), 0);
        feasts(x, name);
        headlands(x, name);
        crews(x, name);
        seats(x, name);
        skies(x, name);
        workQuestions(x, name);
        patienceQuestions(x, name);
        x = new GodWeathers();
        Kit.tell(x, 0, text);
        years(x, name);
        x = new GodWeathers();
        Kit.tell(x, 0, text);
        drawnYear(x, name);
        x = new GodWeathers();
        Kit.tell(x, 0, text);
        logs(x, name);
    }

    private int come(int here, int w) {
        int then = here | 1 << w;
        for (int other = 0; other < 8; other++) {
            if (oppose[w][other]) {
                then &= ~(1 << other);
            }
        }
        return then;
    }

    private int worthWith(int here) {
        int sum = 0;
        for (int k = 0; k < works; k++) {
            if ((need[k] & here) == need[k]) {
                sum += worth[k];
            }
        }
        return sum;
    }

    private int worksWith(int here) {
        int bits = 0;
        for (int k = 0; k < works; k++) {
            if ((need[k] & here) == need[k]) {
                bits |= 1 << k;
            }
        }
        return bits;
    }

    /** All rows of a number below 9 for each child that its godparents allow (8: nobody, if it may), by numbers. */
    private List<int[]> rows(int crew, boolean mayRest) {
        List<int[]> rows = new ArrayList<>();
        rows.add(new int[0]);
        for (int c = 0; c < children; c++) {
            List<int[]> longer = new ArrayList<>();
            for (int[] row : rows) {
                for (int w = 0; w <= 8; w++) {
                    boolean asks = w < 8 && (crew >> c & 1) != 0 && (kids[c] >> w & 1) != 0;
                    boolean rests = w == 8 && (mayRest || (crew >> c & 1) == 0);
                    if (asks || rests) {
                        int[] more = java.util.Arrays.copyOf(row, c + 1);
                        more[c] = w;
                        longer.add(more);
                    }
                }
            }
            rows = longer;
        }
        return rows;
    }

    private int hereBy(int[] row) {
        int here = 0;
        for (int w : row) {
            here = w < 8 ? come(here, w) : here;
        }
        return here;
    }

    private int feastOf(int crew) {
        int best = 0;
        for (int[] row : rows(crew, true)) {
            best = Math.max(best, worthWith(hereBy(row)));
        }
        return best;
    }

    private void feasts(GodWeathers x, String name) {
        int everybody = (1 << children) - 1;
        int[] bestRow = null;
        int[] busyRow = null;
        int best = -1;
        int busy = -1;
        List<Integer> daySets = new ArrayList<>();
        for (int[] row : rows(everybody, true)) {
            int here = hereBy(row);
            int set = worksWith(here);
            if (worthWith(here) > best) {
                best = worthWith(here);
                bestRow = row;
            }
            if (Integer.bitCount(set) > busy) {
                busy = Integer.bitCount(set);
                busyRow = row;
            }
            if (!daySets.contains(set)) {
                daySets.add(set);
            }
        }
        KIT.due(name + "feast", x.feast(0, -1), best);
        KIT.due(name + "busy", x.busy(0, -1), busy);
        for (int c = 0; c < children; c++) {
            KIT.due(name + "feast " + c, x.feast(0, c), bestRow[c]);
            KIT.due(name + "busy " + c, x.busy(0, c), busyRow[c]);
        }
        plan(x, name, daySets);
        heirAndPair(x, name, everybody);
        List<int[]> rows = rows(everybody, false);
        for (int k = 0; k < works; k++) {
            int lucky = 0;
            for (int[] row : rows) {
                lucky += (hereBy(row) & need[k]) == need[k] ? 1 : 0;
            }
            fraction(name + "lots " + k, lucky, rows.size(), x.lots(0, k, false), x.lots(0, k, true));
        }
    }

    private void plan(GodWeathers x, String name, List<Integer> daySets) {
        int ever = 0;
        for (int set : daySets) {
            ever |= set;
        }
        int days = 0;
        boolean[] done = new boolean[64];
        done[0] = true;
        while (!done[ever]) {
            boolean[] next = new boolean[64];
            for (int before = 0; before < 64; before++) {
                for (int set : daySets) {
                    next[before | set] |= done[before];
                }
            }
            done = next;
            days++;
        }
        KIT.due(name + "plan", x.plan(0, false), days);
        KIT.due(name + "never", x.plan(0, true), (1 << works) - 1 - ever);
    }

    private void heirAndPair(GodWeathers x, String name, int everybody) {
        int heir = -1;
        int least = -1;
        int couple = -1;
        int most = -1;
        for (int a = 0; a < children; a++) {
            int rest = feastOf(everybody - (1 << a));
            if (heir < 0 || rest < least) {
                heir = a;
                least = rest;
            }
            for (int b = a + 1; b < children; b++) {
                int two = feastOf(1 << a | 1 << b);
                if (two > most) {
                    most = two;
                    couple = 10 * a + b;
                }
            }
        }
        KIT.due(name + "heir", x.heir(0, false), heir);
        KIT.due(name + "heir much", x.heir(0, true), least);
        KIT.due(name + "pair", x.pair(0, false), couple);
        KIT.due(name + "pair much", x.pair(0, true), most);
    }

    /** {what it comes to, what is done first} */
    private int[] play(int turns, int taken, int here, boolean forIt) {
        if (turns == 0) {
            return new int[] {worthWith(here), -1};
        }
        int[] best = null;
        for (int code = 0; code < 100; code++) {
            int c = code / 10;
            int w = code % 10;
            boolean asks = c < children && w < 8 && (taken >> c & 1) == 0 && (kids[c] >> w & 1) != 0;
            if (asks || code == 99) {
                int end = asks ? play(turns - 1, taken | 1 << c, come(here, w), !forIt)[0]
                    : play(turns - 1, taken, here, !forIt)[0];
                if (best == null || (forIt ? end > best[0] : end < best[0])) {
                    best = new int[] {end, code};
                }
            }
        }
        return best;
    }

    private void headlands(GodWeathers x, String name) {
        for (int n = 0; n <= 3; n++) {
            int[] best = play(n, 0, 0, true);
            KIT.due(name + "headland " + n, x.headland(0, n, false), best[0]);
            KIT.due(name + "headland first " + n, x.headland(0, n, true), best[1]);
        }
    }

    private boolean apart(int crew) {
        for (int a = 0; a < children; a++) {
            for (int b = 0; b < a; b++) {
                if ((crew >> a & 1) != 0 && (crew >> b & 1) != 0 && (kids[a] & kids[b]) != 0) {
                    return false;
                }
            }
        }
        return true;
    }

    private int union(int crew) {
        int all = 0;
        for (int c = 0; c < children; c++) {
            all |= (crew >> c & 1) != 0 ? kids[c] : 0;
        }
        return all;
    }

    private void crews(GodWeathers x, String name) {
        int everybody = (1 << children) - 1;
        int village = everybody;
        int raft = 0;
        for (int crew = everybody; crew >= 0; crew--) {
            if (union(crew) == union(everybody) && Integer.bitCount(crew) <= Integer.bitCount(village)) {
                village = crew;
            }
            if (apart(crew) && Integer.bitCount(crew) >= Integer.bitCount(raft)) {
                raft = crew;
            }
        }
        KIT.due(name + "village", x.village(0, false), Integer.bitCount(village));
        KIT.due(name + "village who", x.village(0, true), village);
        KIT.due(name + "raft", x.clan(0, 2), Integer.bitCount(raft));
        KIT.due(name + "raft who", x.clan(0, 3), raft);
        int[] clan = new int[6];
        for (int c = 0; c < children; c++) {
            clan[c] = c;
        }
        int twins = 0;
        int lone = 0;
        for (int round = 0; round < 6; round++) {
            for (int a = 0; a < children; a++) {
                for (int b = 0; b < children; b++) {
                    if ((kids[a] & kids[b]) != 0) {
                        clan[a] = Math.min(clan[a], clan[b]);
                    }
                }
            }
        }
        int clans = 0;
        for (int a = 0; a < children; a++) {
            int mine = 0;
            boolean alone = true;
            for (int b = 0; b < children; b++) {
                mine |= clan[a] == clan[b] ? 1 << b : 0;
                twins += a < b && kids[a] == kids[b] ? 1 : 0;
                alone &= a == b || (kids[a] & kids[b]) == 0;
                KIT.due(name + "kin", x.kin(0, a, b), Integer.bitCount(kids[a] & kids[b]));
            }
            lone |= alone ? 1 << a : 0;
            clans += clan[a] == a ? 1 : 0;
            KIT.due(name + "clan of " + a, x.clan(0, 10 + a), mine);
        }
        KIT.due(name + "clans", x.clan(0, 0), clans);
        KIT.due(name + "twins", x.clan(0, 1), twins);
        KIT.due(name + "lone", x.lone(0, false), lone);
        KIT.due(name + "couples", x.clan(0, 4), couples());
    }

    /** By all choices of couples that share no godparent. */
    private int couples() {
        int best = 0;
        List<int[]> pairs = new ArrayList<>();
        for (int a = 0; a < children; a++) {
            for (int b = a + 1; b < children; b++) {
                if ((kids[a] & kids[b]) == 0) {
                    pairs.add(new int[] {a, b});
                }
            }
        }
        for (int chosen = 0; chosen < 1 << pairs.size(); chosen++) {
            int taken = 0;
            boolean twice = false;
            for (int i = 0; i < pairs.size(); i++) {
                if ((chosen >> i & 1) != 0) {
                    int both = 1 << pairs.get(i)[0] | 1 << pairs.get(i)[1];
                    twice |= (taken & both) != 0;
                    taken |= both;
                }
            }
            best = twice ? best : Math.max(best, Integer.bitCount(chosen));
        }
        return best;
    }

    private boolean sits(int[] row, int n) {
        for (int boat = 0; boat < children; boat++) {
            int crew = 0;
            for (int c = 0; c < children; c++) {
                crew |= row[c] == boat ? 1 << c : 0;
            }
            if (Integer.bitCount(crew) > n || !apart(crew)) {
                return false;
            }
        }
        return true;
    }

    private void seats(GodWeathers x, String name) {
        int n = 1 + chance.nextInt(6);
        int fewest = 7;
        int[] first = new int[children];
        int codes = (int) Math.pow(Math.max(children, 1), children);
        for (int code = 0; code < codes; code++) {
            int[] row = new int[children];
            int boats = 0;
            for (int c = children - 1, rest = code; c >= 0; c--, rest /= children) {
                row[c] = rest % children;
                boats |= 1 << row[c];
            }
            // Boats without a gap: the first are those that are used.
            if ((boats & boats + 1) == 0 && Integer.bitCount(boats) < fewest && sits(row, n)) {
                fewest = Integer.bitCount(boats);
                first = row;
            }
        }
        KIT.due(name + "boats " + n, x.boats(0, n), fewest);
        for (int c = 0; c < children; c++) {
            KIT.due(name + "seat " + n + " of " + c, x.seat(0, n, c), first[c]);
        }
    }

    private int[] longest(int[] row) {
        int[] best = row;
        for (int w = 0; w < 8; w++) {
            boolean goesOn = row.length == 0 || oppose[row[row.length - 1]][w];
            for (int before : row) {
                goesOn &= before != w;
            }
            if (goesOn) {
                int[] more = java.util.Arrays.copyOf(row, row.length + 1);
                more[row.length] = w;
                int[] found = longest(more);
                best = found.length > best.length ? found : best;
            }
        }
        return best;
    }

    private void skies(GodWeathers x, String name) {
        int calm = 0;
        int rivals = 0;
        long[] storm = new long[10];
        for (int bits = 0; bits < 256; bits++) {
            boolean quiet = true;
            long ways = 1;
            for (int a = 0; a < 8; a++) {
                for (int b = 0; b < a; b++) {
                    quiet &= !((bits >> a & 1) != 0 && (bits >> b & 1) != 0 && oppose[a][b]);
                    rivals += bits == 0 && oppose[a][b] ? 1 : 0;
                }
                ways *= (bits >> a & 1) != 0 ? odds[a] : 10 - odds[a];
            }
            calm = quiet && Integer.bitCount(bits) > Integer.bitCount(calm) ? bits : calm;
            for (int n = 0; n <= Integer.bitCount(bits); n++) {
                storm[n] += ways;
            }
        }
        KIT.due(name + "rivals", x.clan(0, 5), rivals);
        KIT.due(name + "calm", x.clan(0, 6), Integer.bitCount(calm));
        KIT.due(name + "calm which", x.clan(0, 7), calm);
        for (int n = 0; n <= 8; n++) {
            fraction(name + "storm " + n, storm[n], 100000000, x.storm(0, n, false), x.storm(0, n, true));
        }
        int[] row = longest(new int[0]);
        row = row.length < 2 ? new int[0] : row;
        KIT.due(name + "ladder", x.ladder(0, -1), row.length);
        for (int k = 0; k < 9; k++) {
            KIT.due(name + "ladder " + k, x.ladder(0, k), k < row.length ? row[k] : -1);
        }
    }

    private static void fraction(String call, long over, long under, long gotOver, long gotUnder) {
        long divisor = BigInteger.valueOf(over).gcd(BigInteger.valueOf(under)).longValue();
        KIT.due(call, gotOver, over / divisor);
        KIT.due(call + " under", gotUnder, under / divisor);
    }

    private void workQuestions(GodWeathers x, String name) {
        int dearest = -1;
        for (int k = 0; k < works; k++) {
            dearest = dearest < 0 || worth[k] > worth[dearest] ? k : dearest;
            KIT.due(name + "lack " + k, x.lack(0, k), need[k] & ~union(63));
            int asked = chance.nextInt(256);
            long likely = likely(k, asked);
            fraction(name + "odds " + k, likely, 100000000, x.odds(0, k, asked, false), x.odds(0, k, asked, true));
            likely = likely(k, 0);
            if (likely == 0) {
                KIT.due(name + "hope " + k, x.hope(0, k, false), -1);
                KIT.due(name + "hope " + k, x.hope(0, k, true), -1);
            } else {
                fraction(name + "hope " + k, 100000000, likely, x.hope(0, k, false), x.hope(0, k, true));
            }
            calls(x, name, k);
        }
        KIT.due(name + "dearest", x.lone(0, true), dearest);
        int weathers = chance.nextInt(256);
        KIT.due(name + "ready", x.ready(0, weathers), worksWith(weathers));
        int near = 0;
        for (int c = 0; c < children; c++) {
            near |= Integer.bitCount(kids[c] & weathers) > 1 ? 1 << c : 0;
        }
        KIT.due(name + "near", x.near(0, weathers), near);
        levies(x, name);
        for (int v = 0; v < 100; v += 7) {
            int best = -1;
            for (int bits = 255; bits >= 0; bits--) {
                if (worthWith(bits) >= v && (best < 0 || Integer.bitCount(bits) <= Integer.bitCount(best))) {
                    best = bits;
                }
            }
            KIT.due(name + "tide which " + v, x.tide(0, v, true), best);
            KIT.due(name + "tide " + v, x.tide(0, v, false), best < 0 ? -1 : Integer.bitCount(best));
        }
    }

    private long likely(int k, int asked) {
        long sum = 0;
        for (int come = 0; come < 256; come++) {
            long ways = 1;
            for (int w = 0; w < 8; w++) {
                ways *= (come >> w & 1) != 0 ? odds[w] : 10 - odds[w];
            }
            sum += (need[k] & (come | asked)) == need[k] ? ways : 0;
        }
        return sum;
    }

    private void calls(GodWeathers x, String name, int k) {
        List<Integer> weathers = new ArrayList<>();
        for (int w = 0; w < 8; w++) {
            if ((need[k] >> w & 1) != 0) {
                weathers.add(w);
            }
        }
        int n = weathers.size();
        int[] found = null;
        int codes = (int) Math.pow(Math.max(children, 1), n);
        for (int code = 0; code < codes && found == null; code++) {
            int[] row = new int[n];
            int taken = 0;
            boolean can = n == 0 || children > 0;
            for (int i = n - 1, rest = code; i >= 0 && can; i--, rest /= children) {
                row[i] = rest % children;
                can = (taken >> row[i] & 1) == 0 && (kids[row[i]] >> weathers.get(i) & 1) != 0;
                taken |= 1 << row[i];
            }
            found = can ? row : null;
        }
        KIT.due(name + "call " + k, x.call(0, k, -1), found == null ? -1 : n);
        for (int i = 0; i <= n; i++) {
            KIT.due(name + "call " + k + " " + i, x.call(0, k, i), found == null || i == n ? -1 : found[i]);
        }
    }

    private void levies(GodWeathers x, String name) {
        for (int n = 0; n <= 6; n++) {
            int best = -1;
            for (int set = 0; set < 1 << works; set++) {
                int sum = 0;
                int total = 0;
                int all = 0;
                for (int k = 0; k < works; k++) {
                    if ((set >> k & 1) != 0) {
                        sum += worth[k];
                        total += Integer.bitCount(need[k]);
                        all |= need[k];
                    }
                }
                if (Integer.bitCount(set) == n && total == Integer.bitCount(all)) {
                    best = Math.max(best, sum);
                }
            }
            KIT.due(name + "levy " + n, x.levy(0, n), best);
        }
    }

    /** The fewest thanks for one godparent, by trying on each day whether to thank it. */
    private static int thanks(int patience, int forgotten, int days) {
        if (days == 0) {
            return 0;
        }
        int best = 1000;
        if (forgotten + 1 <= patience) {
            best = thanks(patience, forgotten + 1, days - 1);
        }
        if (forgotten > 0) {
            best = Math.min(best, 1 + thanks(patience, 1, days - 1));
        }
        return best;
    }

    private void patienceQuestions(GodWeathers x, String name) {
        for (int c = 0; c < children; c++) {
            int who = -1;
            int n = 1 + chance.nextInt(12);
            int thanks = 0;
            for (int w = 0; w < 8; w++) {
                if ((kids[c] >> w & 1) != 0) {
                    who = who < 0 || patience[w] < patience[who] ? w : who;
                    thanks += thanks(patience[w], 0, n);
                }
            }
            KIT.due(name + "first " + c, x.first(0, c, false), patience[who] + 1);
            KIT.due(name + "first who " + c, x.first(0, c, true), who);
            KIT.due(name + "kept " + c + " " + n, x.kept(0, c, n), thanks);
        }
    }

    /** A year in the plainest form; what it may not do it leaves. */
    private final class Plain {
        int day;
        int here;
        int done;
        int barns;
        int asked;
        int thanks;
        int most;
        int offence = -1;
        int whom = -1;
        final int[][] forgotten = new int[6][8];
        final boolean[][] offended = new boolean[6][8];
        final int[] asks = new int[6];

        boolean deed(int kind, int a, int b, int number) {
            boolean can = kind < 2 ? a < children && (kids[a] >> b & 1) != 0 : kind != 3 || a < works;
            if (!can) {
                return false;
            }
            if (kind == 0) {
                if ((asked >> a & 1) != 0 || offended[a][b]) {
                    return false;
                }
                asked |= 1 << a;
                asks[a]++;
                here = come(here, b);
                forgotten[a][b] = 0;
            } else if (kind == 1) {
                thanks++;
                forgotten[a][b] = 0;
                offended[a][b] = false;
            } else if (kind == 2) {
                here = come(here, a);
            } else if (kind == 3) {
                if ((done >> a & 1) != 0 || (need[a] & here) != need[a]) {
                    return false;
                }
                done |= 1 << a;
            } else {
                night(number);
            }
            most = Math.max(most, Integer.bitCount(here));
            return true;
        }

        private void night(int number) {
            day++;
            here = 0;
            asked = 0;
            for (int c = 5; c >= 0; c--) {
                for (int w = 7; w >= 0; w--) {
                    boolean isOne = c < children && (kids[c] >> w & 1) != 0;
                    if (isOne && !offended[c][w] && ++forgotten[c][w] > patience[w]) {
                        offended[c][w] = true;
                        barns++;
                        if (offence < 0 || offence == number) {
                            offence = number;
                            whom = 10 * c + w;
                        }
                    }
                }
            }
        }

        int look(int what) {
            int[] plain = {day, here, done, 0, barns, asked};
            if (what == 3) {
                int sum = 0;
                for (int k = 0; k < works; k++) {
                    sum += (done >> k & 1) != 0 ? worth[k] : 0;
                }
                return sum;
            }
            if (what >= 0 && what < 6) {
                return plain[what];
            }
            if (what >= 10 && what < 10 + children) {
                int bits = 0;
                for (int w = 0; w < 8; w++) {
                    bits |= offended[what - 10][w] ? 1 << w : 0;
                }
                return bits;
            }
            int c = (what - 100) / 8;
            int w = (what - 100) % 8;
            boolean isOne = what >= 100 && c < children && (kids[c] >> w & 1) != 0;
            return isOne ? forgotten[c][w] : -1;
        }
    }

    private int someWhat() {
        int kind = chance.nextInt(4);
        return kind == 0 ? chance.nextInt(7) : kind == 1 ? 9 + chance.nextInt(8) : 99 + chance.nextInt(51);
    }

    private void years(GodWeathers x, String name) {
        int deeds = chance.nextInt(41);
        int[][] year = new int[deeds][];
        StringBuilder lines = new StringBuilder();
        Plain trial = new Plain();
        for (int n = 0; n < deeds; n++) {
            // Mostly deeds that can be, so that years go far.
            do {
                year[n] = someDeed();
            } while (chance.nextInt(40) != 0 && !trial.deed(year[n][0], year[n][1], year[n][2], n));
            String[] words = {"ask", "thank", "come", "do", "day"};
            int[] numbers = {2, 2, 1, 1, 0};
            lines.append(words[year[n][0]]);
            for (int i = 1; i <= numbers[year[n][0]]; i++) {
                lines.append(' ').append(year[n][i]);
            }
            lines.append(';');
        }
        KIT.due(name + "year", Kit.tell(x, 1, lines.toString()), 0);
        Plain plain = new Plain();
        int end = 0;
        while (end < deeds) {
            lookAround(x, name, plain, end);
            if (!plain.deed(year[end][0], year[end][1], year[end][2], end)) {
                break;
            }
            end++;
        }
        lookAround(x, name, plain, end);
        KIT.due(name + "till", x.till(0, 0), end);
        KIT.due(name + "state behind END", x.state(0, 0, end + 1, 0), -1);
        int eager = -1;
        for (int c = 0; c < 6; c++) {
            eager = plain.asks[c] > 0 && (eager < 0 || plain.asks[c] > plain.asks[eager]) ? c : eager;
        }
        int[] after = {plain.offence, plain.whom, plain.most, eager, plain.thanks, (1 << works) - 1 & ~plain.done};
        for (int what = 0; what < 6; what++) {
            KIT.due(name + "after " + what, x.after(0, 0, what), after[what]);
        }
    }

    private void lookAround(GodWeathers x, String name, Plain plain, int n) {
        for (int i = 0; i < 8; i++) {
            int what = someWhat();
            KIT.due(name + "state " + n + " " + what, x.state(0, 0, n, what), plain.look(what));
        }
    }

    private int[] someDeed() {
        int kind = chance.nextInt(5);
        int first = kind == 2 ? chance.nextInt(8) : chance.nextInt(6);
        return new int[] {kind, first, chance.nextInt(8)};
    }

    private void drawnYear(GodWeathers x, String name) {
        int seed = chance.nextInt();
        int times = chance.nextInt(61);
        Plain plain = new Plain();
        long value = seed & 0xffffffffL;
        for (int n = 0; n < times; n++) {
            value = value * 1103515245L + 12345 & 0xffffffffL;
            int lot = (int) ((value >> 16) % 8);
            if (lot < 4 && children > 0) {
                value = value * 1103515245L + 12345 & 0xffffffffL;
                int c = (int) ((value >> 16) % children);
                value = value * 1103515245L + 12345 & 0xffffffffL;
                int bits = kids[c];
                for (long skip = (value >> 16) % 3; skip > 0; skip--) {
                    bits &= bits - 1;
                }
                plain.deed(lot / 3, c, Integer.numberOfTrailingZeros(bits), n);
            } else if (lot == 4) {
                value = value * 1103515245L + 12345 & 0xffffffffL;
                plain.deed(2, (int) ((value >> 16) % 8), 0, n);
            } else if (lot == 5 && works > 0) {
                value = value * 1103515245L + 12345 & 0xffffffffL;
                plain.deed(3, (int) ((value >> 16) % works), 0, n);
            } else if (lot > 5) {
                plain.deed(4, 0, 0, n);
            }
        }
        for (int what = 0; what < 150; what++) {
            KIT.due(name + "drawn " + seed + " " + times + " " + what, x.drawn(0, seed, times, what), plain.look(what));
        }
    }

    private void logs(GodWeathers x, String name) {
        int facts = chance.nextInt(chance.nextBoolean() ? 4 : 9);
        int heard = 0;
        int deaf = 0;
        StringBuilder lines = new StringBuilder();
        for (int k = 0; k < facts; k++) {
            int w = chance.nextInt(8);
            boolean hears = chance.nextInt(3) == 0;
            heard |= hears ? 1 << w : 0;
            deaf |= hears ? 0 : 1 << w;
            lines.append(hears ? "heard " : "deaf ").append(w).append(';');
        }
        Kit.tell(x, 2, lines.toString());
        List<Integer> fits = new ArrayList<>();
        for (int c = 2; c < 8; c++) {
            for (int b = 1; b < c; b++) {
                for (int a = 0; a < b; a++) {
                    int trio = 1 << a | 1 << b | 1 << c;
                    if ((trio & heard) == heard && (trio & deaf) == 0) {
                        fits.add(trio);
                    }
                }
            }
        }
        KIT.due(name + "fits", x.fits(0, 0), fits.size());
        for (int k = 0; k < 57; k++) {
            KIT.due(name + "fits " + k, x.fits(0, 10 + k), k < fits.size() ? fits.get(k) : -2);
        }
        int sure = 255;
        int next = -1;
        int least = 57;
        for (int w = 0; w < 8; w++) {
            int with = 0;
            for (int trio : fits) {
                sure &= trio;
                with += trio >> w & 1;
            }
            int greater = Math.max(with, fits.size() - with);
            if (greater < least) {
                least = greater;
                next = w;
            }
            if (fits.isEmpty()) {
                KIT.due(name + "share", x.share(0, w, false), -1);
            } else {
                fraction(name + "share", with, fits.size(), x.share(0, w, false), x.share(0, w, true));
            }
        }
        KIT.due(name + "sure", x.fits(0, 1), fits.isEmpty() ? -1 : sure);
        KIT.due(name + "next", x.fits(0, 2), fits.isEmpty() ? -1 : next);
        int whose = 0;
        for (int c = 0; c < children; c++) {
            whose |= fits.contains(kids[c]) ? 1 << c : 0;
        }
        KIT.due(name + "whose", x.whose(0, 0), whose);
    }

    /** {over, asks}; under is ten to the n. */
    private static BigInteger[] waitOver(int p, int c, int n) {
        BigInteger ask = BigInteger.valueOf(c).multiply(BigInteger.TEN.pow(n - 1));
        BigInteger least = ask;
        if (n > 1) {
            BigInteger wait = BigInteger.TEN.pow(n - 1).add(waitOver(p, c, n - 1)[0]);
            least = ask.min(wait);
        }
        BigInteger asks = least.equals(ask) ? BigInteger.ONE : BigInteger.ZERO;
        return new BigInteger[] {least.multiply(BigInteger.valueOf(10 - p)), asks};
    }

    private static void waitsByCounting() {
        GodWeathers x = new GodWeathers();
        for (int p = 0; p <= 10; p++) {
            for (int c = 0; c <= 20; c++) {
                for (int n = 1; n <= 9; n++) {
                    BigInteger[] want = waitOver(p, c, n);
                    String call = "waits " + p + " " + c + " " + n;
                    fraction(call, want[0].longValueExact(), BigInteger.TEN.pow(n).longValue(), x.waits(p, c, n, 0),
                        x.waits(p, c, n, 1));
                    KIT.due(call, x.waits(p, c, n, 2), want[1].longValue());
                }
            }
        }
    }
}
