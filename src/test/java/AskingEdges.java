/** The edges of CALL, FEAST, HEADLAND, WAIT, BUSY, LOTS, HEIR, PLAN and PAIR; promises 10, 11, 15, 16, 28 to 31 and 35. */
final class AskingEdges {
    private static final boolean[] BOTH = {false, true};
    private static final String SIX_CHILDREN = Kit.times(6, "child 0 1 2;");

    private final Edges edges;

    private AskingEdges(Edges edges) {
        this.edges = edges;
    }

    static void ask(Edges edges) {
        AskingEdges e = new AskingEdges(edges);
        e.nobodyOffended();
        e.callTwice();
        e.callFirstRow();
        e.callNoneSuch();
        e.feastNobody();
        e.feastNoneSuch();
        e.headlandTurns();
        e.headlandTaken();
        e.headlandFirst();
        e.headlandNoneSuch();
        e.waitBounds();
        e.waitLastDay();
        e.waitAsGood();
        e.waitOthers();
        e.busy();
        e.lots();
        e.heir();
        e.plan();
        e.pair();
    }

    private void nobodyOffended() {
        edges.terms(3, "(Of a COAST as told, nobody being OFFENDED.)");
        GodWeathers x = Kit.coastAndYear("child 0 1 2;work 1;needs 0 0;", Kit.times(40, "day;"));
        edges.due("all are offended", x.state(0, 0, 40, 10), 7);
        edges.due("call", x.call(0, 0, 0), 0);
        edges.due("feast", x.feast(0, -1), 1);
        edges.due("headland", x.headland(0, 1, true), 0);
        edges.due("village", x.village(0, true), 1);
        edges.due("boats", x.boats(0, 1), 1);
    }

    private void callTwice() {
        edges.terms(3, "no CHILD asks twice: whether that can be (OPPOSING ones aside)");
        String two = "work 1;needs 0 0;needs 0 1;";
        edges.due("one child for two", Kit.coast("child 0 1 2;" + two).call(0, 0, -1), -1);
        edges.due("two children for two", Kit.coast("child 0 1 2;child 0 1 2;" + two).call(0, 0, -1), 2);
        edges.due("opposing ones", Kit.coast("child 0 1 2;child 0 1 2;oppose 0 1;" + two).call(0, 0, -1), 2);
        edges.due("nobody's", Kit.coast("child 0 2 3;child 0 2 3;" + two).call(0, 0, -1), -1);
        StringBuilder six = new StringBuilder("work 1;");
        for (int w = 0; w < 6; w++) {
            six.append("child 7 6 ").append(w).append(";needs 0 ").append(w).append(';');
        }
        edges.due("six for six", Kit.coast(six.toString()).call(0, 0, -1), 6);
        edges.due("six for seven", Kit.coast(six + "needs 0 6;").call(0, 0, -1), -1);
        edges.due("none", Kit.coast("work 1;").call(0, 0, -1), 0);
        edges.due("no children for one", Kit.coast("work 1;needs 0 0;").call(0, 0, -1), -1);
    }

    private void callFirstRow() {
        edges.terms(3, "who asks, the first row by WEATHERS it NEEDS, rising, by numbers.");
        GodWeathers x = Kit.coast("child 6 7 0;child 0 7 1;child 0 1 2;work 1;needs 0 7;needs 0 0;");
        edges.due("who asks 0", x.call(0, 0, 0), 0);
        edges.due("who asks 7", x.call(0, 0, 1), 1);
        x = Kit.coast("child 6 7 0;child 0 1 2;work 1;needs 0 7;needs 0 0;");
        edges.due("0 is left to the second", x.call(0, 0, 0), 1);
        edges.due("7 is the first's", x.call(0, 0, 1), 0);
        x = Kit.coast(SIX_CHILDREN + "work 1;needs 0 0;needs 0 1;needs 0 2;");
        for (int k = 0; k < 3; k++) {
            edges.due("alike ones by numbers", x.call(0, 0, k), k);
        }
    }

    private void callNoneSuch() {
        edges.promise(10, "how many WEATHERS it NEEDS (k NONE), or which CHILD asks the k-th.");
        GodWeathers x = Kit.coast(SIX_CHILDREN + "work 1;work 1;needs 1 2;work 1;needs 2 0;needs 2 1;needs 2 2;");
        int[] many = {0, 1, 3};
        for (int work = 0; work < 3; work++) {
            edges.due("how many", x.call(0, work, -1), many[work]);
        }
        edges.due("the last", x.call(0, 2, 2), 2);
        edges.promise(10, "NONE: it can't be, not so many, or there is none such (of either).");
        for (int work = 0; work < 3; work++) {
            int one = work;
            edges.only("k of work " + work, x, -1, many[work] - 1, -1, (y, k) -> y.call(0, one, k));
        }
        GodWeathers never = Kit.coast("child 0 1 2;work 1;needs 0 0;needs 0 1;");
        for (int k = -1; k < 3; k++) {
            edges.due("can't be, " + k, never.call(0, 0, k), -1);
        }
        edges.onlyCoasts("call", -1, (y, at) -> y.call(at, 0, -1));
        edges.onlyCoasts("call", -1, (y, at) -> y.call(at, 0, 0));
        edges.onlyWorks("call", -1, (y, work) -> y.call(0, work, -1));
        edges.onlyWorks("call", -1, (y, work) -> y.call(0, work, 0));
    }

    private void feast(String coast, int much, int... row) {
        GodWeathers x = Kit.coast(coast);
        edges.due("feast of " + coast, x.feast(0, -1), much);
        for (int c = 0; c < row.length; c++) {
            edges.due("feast " + c + " of " + coast, x.feast(0, c), row[c]);
        }
        edges.due("one child more", x.feast(0, row.length), -1);
    }

    private void feastNobody() {
        edges.terms(3, "FEAST: each CHILD asks one of its GODPARENTS, or none, one behind the other by numbers: so that WORKS of which all they NEED are HERE in the end are WORTH most together: how much; whom each asks, the first row by numbers (8: nobody).");
        feast("", 0);
        feast("work 20;", 20);
        feast("work 20;needs 0 0;", 0);
        feast("child 5 6 7;", 0, 5);
        feast(Kit.times(6, "work 20;"), 120);
        feast(SIX_CHILDREN + "work 0;", 0, 0, 0, 0, 0, 0, 0);
        feast(SIX_CHILDREN + "work 1;needs 0 2;", 1, 0, 0, 0, 0, 0, 2);
        // Whom the second could ask drives out what the work needs; so would the last of three.
        feast("child 5 6 7;child 0 1 2;oppose 7 0;oppose 7 1;oppose 7 2;work 1;needs 0 7;", 1, 7, 8);
        feast("child 0 1 7;child 0 1 2;child 0 1 2;oppose 7 0;oppose 7 1;oppose 7 2;work 1;needs 0 7;", 1, 7, 8, 8);
        // The later one drives out, not the earlier.
        feast("child 0 1 2;child 5 6 7;oppose 7 0;oppose 7 1;oppose 7 2;work 1;needs 0 7;", 1, 0, 7);
        feast("child 0 1 2;child 3 4 5;work 5;needs 0 0;needs 0 1;work 4;needs 1 3;", 4, 0, 3);
    }

    private void feastNoneSuch() {
        edges.promise(11, "FEAST: how much (k NONE), or whom CHILD k asks. NONE: there is none such (of either).");
        edges.onlyCoasts("feast", -1, (x, at) -> x.feast(at, -1));
        edges.onlyCoasts("feast", -1, (x, at) -> x.feast(at, 0));
        edges.only("of six children", Kit.coast(Examples.coastOf(6, 6)), -1, 5, -1, (x, k) -> x.feast(0, k));
        edges.only("of one child", Kit.coast(Examples.coastOf(1, 6)), -1, 0, -1, (x, k) -> x.feast(0, k));
        edges.only("without children", Kit.coast(Examples.coastOf(0, 6)), -1, -1, -1, (x, k) -> x.feast(0, k));
    }

    private void headland(String coast, int n, int much, int first) {
        GodWeathers x = Kit.coast(coast);
        edges.due("headland of " + n + " on " + coast, x.headland(0, n, false), much);
        edges.due("headland first of " + n + " on " + coast, x.headland(0, n, true), first);
    }

    private void headlandTurns() {
        edges.terms(3, "HEADLAND of n, 0 .. 3: two by turns, the first for the works, the second against, n times in all");
        String coast = SIX_CHILDREN + "oppose 0 1;work 9;needs 0 0;";
        headland(coast, 0, 0, -1);
        headland(coast, 1, 9, 0);
        headland(coast, 2, 0, 0);
        headland(coast, 3, 9, 0);
        headland("work 3;", 0, 3, -1);
    }

    private void headlandTaken() {
        edges.terms(3, "a CHILD that nobody has taken asks one of its GODPARENTS, or nobody asks");
        // One child: taken by the first, it can drive out nothing; the first can't ask it twice.
        headland("child 0 1 2;oppose 0 1;work 9;needs 0 0;", 2, 9, 0);
        headland("child 0 1 2;work 9;needs 0 0;needs 0 1;", 3, 0, 0);
        headland("child 0 1 2;child 0 1 2;work 9;needs 0 0;needs 0 1;", 3, 0, 0);
        headland("child 0 1 2;child 0 1 2;child 0 1 2;work 9;needs 0 0;needs 0 1;", 3, 9, 0);
        // Without needs asking does harm to nobody, and without children nobody asks.
        headland("work 9;", 1, 9, 99);
        headland("work 9;", 3, 9, 99);
        headland("work 9;needs 0 0;", 3, 0, 99);
    }

    private void headlandFirst() {
        edges.terms(3, "what the first does first, the least that is best (10 times the CHILD, and the WEATHER; 99 nobody).");
        headland("child 5 6 7;work 1;", 1, 1, 5);
        headland("child 5 6 7;work 1;needs 0 7;", 1, 1, 7);
        headland(Kit.times(5, "child 0 1 2;") + "child 5 6 7;work 1;needs 0 7;", 1, 1, 57);
        headland("child 5 6 7;child 3 4 5;work 1;needs 0 5;", 1, 1, 5);
        headland("child 4 6 7;child 3 4 5;work 1;needs 0 5;", 1, 1, 15);
        headland("", 1, 0, 99);
        headland("child 1 2 3;work 1;needs 0 0;needs 0 1;", 1, 0, 1);
        // Whatever is done, the work can't be.
        headland("child 0 1 2;oppose 0 1;work 1;needs 0 1;needs 0 0;", 2, 0, 0);
        // Two children: who takes one ahead leaves the other, and with it the last word, to the second.
        headland("child 0 1 2;child 0 1 2;oppose 0 1;work 1;needs 0 0;", 3, 1, 99);
        // A third one gives the last word back.
        headland("child 0 1 2;child 0 1 2;child 0 1 2;oppose 0 1;work 1;needs 0 0;", 3, 1, 0);
    }

    private void headlandNoneSuch() {
        edges.promise(15, "or (first) what is done first (NONE: n is 0).");
        for (int many = 0; many <= 6; many += 3) {
            GodWeathers x = Kit.coast(Examples.coastOf(many, 6));
            edges.due("n 0", x.headland(0, 0, true), -1);
            edges.due("n 0, how much", x.headland(0, 0, false), 0);
            edges.due("n 1", x.headland(0, 1, true), many == 0 ? 99 : 0);
        }
        edges.promise(15, "-2: another n, or there is none such.");
        for (boolean first : BOTH) {
            edges.only("n", Kit.coast(Examples.coastOf(6, 6)), 0, 3, -2, (x, n) -> x.headland(0, n, first));
            for (int n = 0; n <= 3; n++) {
                int one = n;
                edges.onlyCoasts("headland", -2, (x, at) -> x.headland(at, one, first));
            }
        }
    }

    private void wait(int p, int c, int n, long over, long under, int asks) {
        GodWeathers x = new GodWeathers();
        String call = "waits " + p + " " + c + " " + n;
        edges.due(call + ", over", x.waits(p, c, n, 0), over);
        edges.due(call + ", under", x.waits(p, c, n, 1), under);
        edges.due(call + ", asks", x.waits(p, c, n, 2), asks);
    }

    private void waitBounds() {
        edges.terms(3, "WAIT of p, 0 .. 10, c, 0 .. 20, n days, 1 .. 9");
        wait(0, 0, 1, 0, 1, 1);
        wait(0, 0, 9, 0, 1, 1);
        wait(0, 20, 1, 20, 1, 1);
        wait(0, 20, 9, 20, 1, 1);
        wait(10, 0, 1, 0, 1, 1);
        wait(10, 20, 1, 0, 1, 1);
        wait(10, 20, 9, 0, 1, 0);
        wait(10, 0, 9, 0, 1, 1);
        wait(9, 20, 9, 11111113, 100000000, 0);
        wait(1, 20, 1, 18, 1, 1);
    }

    private void waitLastDay() {
        edges.terms(3, "or waits for the next day, which costs 1; on the last one asks");
        wait(5, 20, 1, 10, 1, 1);
        wait(5, 20, 2, 11, 2, 0);
        wait(5, 20, 3, 13, 4, 0);
        wait(10, 20, 1, 0, 1, 1);
        wait(10, 2, 2, 0, 1, 0);
        wait(1, 20, 2, 171, 10, 0);
    }

    private void waitAsGood() {
        edges.terms(3, "whether one asks on the first day, if it does not COME (if it is as good: yes).");
        // Waiting costs 1 and c in the half: as good as asking for 2, worse than for 1, better than for 3.
        wait(5, 1, 2, 1, 2, 1);
        wait(5, 2, 2, 1, 1, 1);
        wait(5, 3, 2, 5, 4, 0);
        wait(10, 1, 2, 0, 1, 1);
        wait(10, 2, 2, 0, 1, 0);
        wait(1, 10, 2, 9, 1, 1);
        wait(1, 11, 2, 981, 100, 0);
        wait(0, 20, 2, 20, 1, 1);
        wait(1, 10, 9, 9, 1, 1);
        wait(2, 5, 9, 4, 1, 1);
    }

    private void waitOthers() {
        edges.promise(16, "NONE: other numbers, or for another what.");
        GodWeathers x = new GodWeathers();
        for (int what = 0; what < 3; what++) {
            int one = what;
            edges.only("p", x, 0, 10, -1, (y, p) -> y.waits(p, 5, 5, one));
            edges.only("c", x, 0, 20, -1, (y, c) -> y.waits(5, c, 5, one));
            edges.only("n", x, 1, 9, -1, (y, n) -> y.waits(5, 5, n, one));
        }
        edges.only("what", x, 0, 2, -1, (y, what) -> y.waits(0, 0, 1, what));
        edges.only("what", x, 0, 2, -1, (y, what) -> y.waits(10, 20, 9, what));
    }

    private void busy() {
        edges.terms(6, "BUSY: as FEAST, but so that most WORKS are such: how many; whom each asks, the first row by numbers (8: nobody).");
        GodWeathers x = Kit.coast("child 0 1 2;work 20;needs 0 0;work 0;needs 1 1;work 0;needs 2 1;");
        edges.due("feast", x.feast(0, 0), 0);
        edges.due("busy", x.busy(0, -1), 2);
        edges.due("busy 0", x.busy(0, 0), 1);
        edges.due("no works", Kit.coast("child 4 5 6;").busy(0, -1), 0);
        edges.due("no works", Kit.coast("child 4 5 6;").busy(0, 0), 4);
        edges.due("six of nothing", Kit.coast(Kit.times(6, "work 0;")).busy(0, -1), 6);
        x = Kit.coast("child 5 6 7;child 0 1 2;oppose 7 0;oppose 7 1;oppose 7 2;work 0;needs 0 7;");
        edges.due("one asks", x.busy(0, 0), 7);
        edges.due("nobody", x.busy(0, 1), 8);
        edges.promise(28, "BUSY: how many (k NONE), or whom CHILD k asks. NONE: there is none such (of either).");
        edges.onlyCoasts("busy", -1, (y, at) -> y.busy(at, -1));
        edges.onlyCoasts("busy", -1, (y, at) -> y.busy(at, 0));
        edges.only("of six children", Kit.coast(Examples.coastOf(6, 6)), -1, 5, -1, (y, k) -> y.busy(0, k));
        edges.only("of one child", Kit.coast(Examples.coastOf(1, 6)), -1, 0, -1, (y, k) -> y.busy(0, k));
        edges.only("without children", Kit.coast(Examples.coastOf(0, 6)), -1, -1, -1, (y, k) -> y.busy(0, k));
    }

    private void lot(String coast, long over, long under) {
        GodWeathers x = Kit.coast(coast);
        edges.due("lots of " + coast, x.lots(0, 0, false), over);
        edges.due("lots under of " + coast, x.lots(0, 0, true), under);
    }

    private void lots() {
        edges.terms(6, "LOTS of a WORK: each CHILD asks one of its GODPARENTS, each of these being alike, one behind the other by numbers");
        lot("work 1;", 1, 1);
        lot("work 1;needs 0 0;", 0, 1);
        lot(SIX_CHILDREN + "work 1;", 1, 1);
        lot(SIX_CHILDREN + "work 1;needs 0 7;", 0, 1);
        lot(SIX_CHILDREN + "work 1;needs 0 0;", 665, 729);
        lot("child 0 1 2;work 1;needs 0 0;", 1, 3);
        lot("child 0 1 2;work 1;needs 0 0;needs 0 1;", 0, 1);
        lot("child 0 1 2;child 3 4 5;oppose 0 3;work 1;needs 0 0;", 2, 9);
        lot("child 3 4 5;child 0 1 2;oppose 0 3;work 1;needs 0 0;", 1, 3);
        edges.promise(29, "NONE: there is none such (of either).");
        for (boolean under : BOTH) {
            edges.onlyCoasts("lots", -1, (x, at) -> x.lots(at, 0, under));
            edges.onlyWorks("lots", -1, (x, work) -> x.lots(0, work, under));
        }
    }

    private void heir() {
        edges.terms(6, "HEIR: the CHILD without which FEAST is least, of several the least; how much it is then.");
        GodWeathers x = Kit.coast(SIX_CHILDREN + "work 5;needs 0 0;");
        edges.due("all alike", x.heir(0, false), 0);
        edges.due("much", x.heir(0, true), 5);
        x = Kit.coast(Kit.times(5, "child 0 1 2;") + "child 5 6 7;work 5;needs 0 7;work 4;needs 1 0;");
        edges.due("the last", x.heir(0, false), 5);
        edges.due("much", x.heir(0, true), 4);
        x = Kit.coast("child 0 1 2;child 3 4 5;child 5 6 7;work 2;needs 0 3;work 2;needs 1 7;");
        edges.due("two alike", x.heir(0, false), 1);
        edges.due("much", x.heir(0, true), 2);
        edges.promise(30, "NONE: no CHILDREN, or there is none such.");
        for (boolean much : BOTH) {
            edges.onlyCoasts("heir", -1, (y, at) -> y.heir(at, much));
            edges.due("no children", Kit.coast("work 1;").heir(0, much), -1);
            edges.due("no children", Kit.coast("").heir(0, much), -1);
            edges.due("one child", Kit.coast("child 0 1 2;").heir(0, much), 0);
        }
        edges.due("one child, much", Kit.coast("child 0 1 2;work 7;work 5;needs 1 0;").heir(0, true), 7);
    }

    private void planOf(String coast, int days, int never) {
        GodWeathers x = Kit.coast(coast);
        edges.due("plan of " + coast, x.plan(0, false), days);
        edges.due("never of " + coast, x.plan(0, true), never);
    }

    private void plan() {
        edges.terms(6, "PLAN: on each day each CHILD asks one of its GODPARENTS, or none, one behind the other by numbers; WORKS of which all they NEED are HERE then are DONE: the fewest days by which all WORKS that can be DONE ever are; which can never be (bits).");
        StringBuilder six = new StringBuilder();
        for (int k = 0; k < 6; k++) {
            six.append("work 1;needs ").append(k).append(' ').append(k).append(';');
        }
        planOf("", 0, 0);
        planOf("child 0 1 2;", 0, 0);
        planOf("work 1;", 1, 0);
        planOf(Kit.times(6, "work 0;"), 1, 0);
        planOf("work 0;needs 0 0;", 0, 1);
        planOf(six.toString(), 0, 63);
        planOf("child 0 1 2;" + six, 3, 56);
        planOf("child 0 1 2;child 3 4 5;" + six, 3, 0);
        planOf("child 0 1 2;child 0 1 2;child 0 1 2;" + six, 1, 56);
        planOf("child 0 1 2;child 0 1 2;child 0 1 2;oppose 0 1;oppose 1 2;oppose 0 2;" + six, 3, 56);
        planOf("child 0 1 2;child 3 4 5;oppose 0 3;oppose 0 4;oppose 0 5;oppose 1 3;oppose 1 4;oppose 1 5;"
            + "oppose 2 3;oppose 2 4;oppose 2 5;" + six, 6, 0);
        planOf("child 0 1 2;work 1;needs 0 0;needs 0 1;work 1;", 1, 1);
        edges.promise(31, "NONE: there is none such.");
        for (boolean never : BOTH) {
            edges.onlyCoasts("plan", -1, (x, at) -> x.plan(at, never));
        }
    }

    private void pair() {
        edges.terms(6, "PAIR: the couple of CHILDREN (10 times the lesser, and the other one) by which alone FEAST is most, of several the first by numbers; how much.");
        GodWeathers x = Kit.coast(SIX_CHILDREN + "work 5;needs 0 0;needs 0 1;");
        edges.due("all alike", x.pair(0, false), 1);
        edges.due("much", x.pair(0, true), 5);
        x = Kit.coast(Kit.times(4, "child 0 1 2;") + "child 3 4 5;child 5 6 7;work 5;needs 0 7;needs 0 3;work 4;needs 1 0;needs 1 1;");
        edges.due("the last two", x.pair(0, false), 45);
        edges.due("much", x.pair(0, true), 5);
        x = Kit.coast("child 3 4 5;child 0 1 2;child 0 1 2;child 0 1 2;work 4;needs 0 0;needs 0 1;");
        edges.due("the first of several", x.pair(0, false), 12);
        x = Kit.coast("child 3 4 5;child 0 1 2;child 5 6 7;child 0 1 2;work 4;needs 0 0;needs 0 3;");
        edges.due("with the first", x.pair(0, false), 1);
        edges.promise(35, "NONE: fewer than two CHILDREN, or there is none such.");
        for (boolean much : BOTH) {
            edges.onlyCoasts("pair", -1, (y, at) -> y.pair(at, much));
            edges.due("no children", Kit.coast("work 1;").pair(0, much), -1);
            edges.due("one child", Kit.coast("child 0 1 2;work 1;").pair(0, much), -1);
            edges.due("two children", Kit.coast("child 0 1 2;child 0 1 2;work 1;").pair(0, much), 1);
        }
        edges.due("two children, worth nothing", Kit.coast("child 0 1 2;child 0 1 2;").pair(0, false), 1);
        edges.due("two children, worth nothing", Kit.coast("child 0 1 2;child 0 1 2;").pair(0, true), 0);
        edges.due("two children, much", Kit.coast("child 0 1 2;child 0 1 2;work 20;").pair(0, true), 20);
    }
}
