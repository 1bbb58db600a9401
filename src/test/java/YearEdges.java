/** The edges of Terms 2, of DRAWN, FIRST, KEPT and what is behind all deeds; promises 7 to 9, 20 and 38 to 40. */
final class YearEdges {
    private static final int LEAST = Integer.MIN_VALUE;
    private static final int GREATEST = Integer.MAX_VALUE;
    private static final String ONE_CHILD = "child 0 1 2;";

    private final Edges edges;

    private YearEdges(Edges edges) {
        this.edges = edges;
    }

    static void ask(Edges edges) {
        YearEdges e = new YearEdges(edges);
        e.begins();
        e.comes();
        e.asks();
        e.thanks();
        e.works();
        e.moreThanPatience();
        e.offendedOnes();
        e.nextDay();
        e.cannotBe();
        e.end();
        e.statesUpToEnd();
        e.deedsNoneSuch();
        e.tillNoneSuch();
        e.stateNoneSuch();
        e.drawnNoneSuch();
        e.firsts();
        e.kept();
        e.upToEnd();
        e.behindAll();
        e.afterNoneSuch();
    }

    private void till(String coast, String year, int want) {
        edges.due("till of " + year + " on " + coast, Kit.coastAndYear(coast, year).till(0, 0), want);
    }

    /** What a state is behind all deeds of a year. */
    private void state(String coast, String year, int what, int want) {
        GodWeathers x = Kit.coastAndYear(coast, year);
        edges.due("state " + what + " behind " + year + " on " + coast, x.state(0, 0, x.deed(0, -1, 0), what), want);
    }

    private void begins() {
        edges.terms(2, "A YEAR of a COAST begins on day 0, no WEATHER being HERE, no WORK DONE, nobody OFFENDED, each GODPARENT FORGOTTEN for 0 days.");
        String[] years = {"", Examples.FULL_YEAR};
        for (String year : years) {
            GodWeathers x = Kit.coastAndYear(Examples.coastOf(6, 6), year);
            for (int what = 0; what < 6; what++) {
                edges.due("state 0, " + what, x.state(0, 0, 0, what), 0);
            }
            for (int c = 0; c < 6; c++) {
                edges.due("offended with " + c, x.state(0, 0, 0, 10 + c), 0);
                for (int w = 0; w < 8; w++) {
                    boolean isOne = (x.coast(0, 40 + c) >> w & 1) != 0;
                    edges.due("forgotten " + c + " " + w, x.state(0, 0, 0, 100 + 8 * c + w), isOne ? 0 : -1);
                }
            }
        }
        beginsAnew();
    }

    /** However often it is asked, and whatever was asked ahead. */
    private void beginsAnew() {
        GodWeathers x = Kit.coastAndYear(ONE_CHILD + "patience 0 1;work 1;", "do 0;come 7;ask 0 0;thank 0 1;day;day;day;ask 0 2;come 5;");
        Kit.tell(x, 1, "");
        int[] full = {3, 36, 1, 1, 1, 1};
        int[] after = {5, 0, 2, 0, 1, 0};
        int[] none = {-1, -1, 0, -1, 0, 1};
        for (int round = 0; round < 2; round++) {
            for (int what = 0; what < 6; what++) {
                edges.due("behind all, " + what, x.state(0, 0, 9, what), full[what]);
                edges.due("ahead of all, " + what, x.state(0, 0, 0, what), 0);
                edges.due("after a full year, " + what, x.after(0, 0, what), after[what]);
                edges.due("after an empty one, " + what, x.after(0, 1, what), none[what]);
                edges.due("drawn no times, " + what, x.drawn(0, round, 0, what), 0);
            }
            edges.due("offended behind all", x.state(0, 0, 9, 10), 1);
            edges.due("offended ahead of all", x.state(0, 0, 0, 10), 0);
            edges.due("forgotten behind all", x.state(0, 0, 9, 100), 2);
            edges.due("forgotten ahead of all", x.state(0, 0, 0, 100), 0);
        }
    }

    private void comes() {
        edges.terms(2, "A WEATHER COMES: it is HERE, those that OPPOSE it are not.");
        state("oppose 0 7;", "come 0;", 1, 1);
        state("oppose 0 7;", "come 0;come 7;", 1, 128);
        state("oppose 0 7;", "come 7;come 0;", 1, 1);
        state("oppose 0 7;", "come 0;come 0;", 1, 1);
        state("oppose 0 7;", "come 0;come 6;come 1;", 1, 67);
        state("oppose 0 7;oppose 1 7;", "come 0;come 1;come 2;come 7;", 1, 132);
        state("", "come 0;come 1;come 2;come 3;come 4;come 5;come 6;come 7;", 1, 255);
        state(ONE_CHILD + "oppose 0 7;", "come 7;ask 0 0;", 1, 1);
    }

    private void asks() {
        edges.terms(2, "ask: a CHILD that has not asked on this day asks one of its GODPARENTS that is not OFFENDED with it: that COMES; it is FORGOTTEN for 0 days by this CHILD.");
        till(ONE_CHILD, "ask 0 0;ask 0 1;", 1);
        till(ONE_CHILD, "ask 0 0;ask 0 0;", 1);
        till(ONE_CHILD, "ask 0 0;day;ask 0 1;", 3);
        till(ONE_CHILD, "ask 0 3;", 0);
        till(ONE_CHILD, "ask 1 0;", 0);
        till("", "ask 0 0;", 0);
        till(Examples.coastOf(6, 0), "ask 5 7;ask 4 7;", 2);
        till(Examples.coastOf(5, 0), "ask 5 7;", 0);
        String onTheEve = ONE_CHILD + "patience 0 1;";
        till(onTheEve, "day;ask 0 0;", 2);
        till(onTheEve, "day;day;ask 0 0;", 2);
        till(onTheEve, "day;day;ask 0 1;", 3);
        state(ONE_CHILD, "day;day;ask 0 1;", 101, 0);
        state(ONE_CHILD, "day;day;ask 0 1;", 100, 2);
        state(ONE_CHILD + "child 0 1 2;", "day;day;ask 0 1;", 109, 2);
        state(Examples.coastOf(6, 0), "ask 5 7;ask 0 0;", 5, 33);
    }

    private void thanks() {
        edges.terms(2, "thank: a CHILD, one of its GODPARENTS: it is FORGOTTEN for 0 days by it, and not OFFENDED with it any more.");
        till(ONE_CHILD, "thank 0 2;thank 0 2;thank 0 0;ask 0 2;thank 0 2;", 5);
        till(ONE_CHILD, "thank 0 3;", 0);
        till(ONE_CHILD, "thank 1 0;", 0);
        till("", "thank 0 0;", 0);
        String twins = ONE_CHILD + ONE_CHILD + "patience 0 1;";
        state(twins, "day;day;", 10, 1);
        state(twins, "day;day;", 11, 1);
        state(twins, "day;day;thank 1 0;", 10, 1);
        state(twins, "day;day;thank 1 0;", 11, 0);
        state(twins, "day;day;thank 1 0;", 108, 0);
        state(twins, "day;day;thank 1 0;", 100, 2);
        state(twins, "day;day;thank 1 0;", 4, 2);
        state(twins, "day;day;thank 1 0;", 5, 0);
        state(twins, "day;day;thank 1 0;", 1, 0);
        till(twins, "day;day;thank 1 0;ask 1 0;ask 0 0;", 4);
    }

    private void works() {
        edges.terms(2, "do: a WORK that is not DONE, all that it NEEDS being HERE: it is DONE.");
        till("work 1;", "do 0;do 0;", 1);
        till("work 1;work 1;", "do 1;do 0;do 1;", 2);
        till("work 1;", "do 1;", 0);
        till("", "do 0;", 0);
        till(Kit.times(6, "work 1;"), "do 5;", 1);
        till(Kit.times(5, "work 1;"), "do 5;", 0);
        String needy = "work 1;needs 0 0;needs 0 7;";
        till(needy, "come 0;do 0;", 1);
        till(needy, "come 0;come 7;do 0;", 3);
        till(needy + "oppose 0 7;", "come 0;come 7;do 0;", 2);
        till(needy, "come 0;come 7;day;do 0;", 3);
        state(needy, "come 0;come 7;do 0;day;", 2, 1);
        state("work 20;work 7;work 0;", "do 0;do 2;", 3, 20);
    }

    private void moreThanPatience() {
        edges.terms(2, "if that is more than its PATIENCE, it is OFFENDED (a barn burns)");
        for (int patience = 1; patience <= 9; patience++) {
            String coast = "child 5 6 7;patience 5 9;patience 6 9;patience 7 " + patience + ";";
            String days = Kit.times(patience, "day;");
            state(coast, days, 10, 0);
            state(coast, days, 107, patience);
            state(coast, days, 4, 0);
            state(coast, days + "day;", 10, patience == 9 ? 224 : 128);
            state(coast, days + "day;", 107, patience + 1);
            state(coast, days + "day;", 4, patience == 9 ? 3 : 1);
            state(coast, days + "thank 0 7;" + days, 107, patience);
        }
    }

    private void offendedOnes() {
        edges.terms(2, "each GODPARENT that is not OFFENDED is FORGOTTEN by its CHILD for one day more");
        String coast = ONE_CHILD + "patience 0 1;patience 1 2;patience 2 9;";
        state(coast, Kit.times(39, "day;"), 100, 2);
        state(coast, Kit.times(39, "day;"), 101, 3);
        state(coast, Kit.times(9, "day;"), 102, 9);
        state(coast, Kit.times(40, "day;"), 102, 10);
        state(coast, Kit.times(40, "day;"), 4, 3);
        state(coast, Kit.times(40, "day;"), 0, 40);
        state(coast, "day;day;thank 0 0;day;day;", 4, 3);
    }

    private void nextDay() {
        edges.terms(2, "day: no WEATHER is HERE; all may ask anew;");
        state(ONE_CHILD, "come 7;ask 0 0;", 1, 129);
        state(ONE_CHILD, "come 7;ask 0 0;day;", 1, 0);
        state(ONE_CHILD, "come 7;ask 0 0;day;", 5, 0);
        state(ONE_CHILD, "come 7;ask 0 0;day;", 0, 1);
        till(Examples.coastOf(6, 0), "ask 0 0;ask 5 7;day;ask 5 7;ask 0 0;", 5);
    }

    private void cannotBe() {
        edges.terms(2, "A DEED can't be, if there is no such CHILD, WORK, or it is not as said.");
        for (int many = 0; many <= 6; many++) {
            GodWeathers x = Kit.coast(Examples.coastOf(many, many));
            for (int n = 0; n < 6; n++) {
                int w = n < many ? Integer.numberOfTrailingZeros(x.coast(0, 40 + n)) : 0;
                int need = n < many ? Integer.numberOfTrailingZeros(x.coast(0, 60 + n)) : 0;
                Kit.tell(x, 1, n == 0 ? -1 : 0, "ask " + n + " " + w + ";");
                edges.due("ask " + n + " of " + many, x.till(0, 0), n < many ? 1 : 0);
                Kit.tell(x, 1, 0, "thank " + n + " " + w + ";");
                edges.due("thank " + n + " of " + many, x.till(0, 0), n < many ? 1 : 0);
                Kit.tell(x, 1, 0, "come " + need + ";do " + n + ";");
                edges.due("do " + n + " of " + many, x.till(0, 0), n < many ? 2 : 1);
            }
        }
    }

    private void end() {
        edges.terms(2, "END: the first DEED that can't be, else how many there are.");
        till("", "", 0);
        till("", "do 0;day;do 0;", 0);
        till("", "day;do 0;day;do 0;", 1);
        till("", Kit.times(40, "day;"), 40);
        till("", Kit.times(39, "day;") + "do 0;", 39);
        till(Examples.coastOf(6, 6), Examples.FULL_YEAR, 40);
    }

    private void statesUpToEnd() {
        edges.terms(2, "A STATE is behind the first n DEEDS, n up to END.");
        GodWeathers x = Kit.coastAndYear("", "day;day;do 0;day;");
        edges.only("state", x, 0, 2, -1, (y, n) -> y.state(0, 0, n, 0));
        edges.due("behind two", x.state(0, 0, 2, 0), 2);
        edges.only("state of a full year", Kit.coastAndYear("", Kit.times(40, "day;")), 0, 40, -1, (y, n) -> y.state(0, 0, n, 0));
        edges.only("state of an empty year", Kit.coastAndYear("", ""), 0, 0, -1, (y, n) -> y.state(0, 0, n, 0));
        edges.only("state of a year whose first can't be", Kit.coastAndYear("", "do 0;"), 0, 0, -1, (y, n) -> y.state(0, 0, n, 0));
    }

    private void deedsNoneSuch() {
        edges.promise(7, "How many DEEDS (k NONE, what 0)");
        GodWeathers x = Examples.full(0, 1, 0);
        edges.due("forty", x.deed(0, -1, 0), 40);
        edges.only("what", x, 0, 0, -2, (y, what) -> y.deed(0, -1, what));
        Kit.tell(x, 1, "");
        edges.due("none", x.deed(1, -1, 0), 0);
        edges.promise(7, "1, 2: its numbers (NONE without).");
        x = new GodWeathers();
        Kit.tell(x, 1, "ask 5 0;thank 0 7;come 0;do 0;day;");
        int[][] want = {{5, 0}, {0, 7}, {0, -1}, {0, -1}, {-1, -1}};
        for (int k = 0; k < 5; k++) {
            edges.due("1 of deed " + k, x.deed(0, k, 1), want[k][0]);
            edges.due("2 of deed " + k, x.deed(0, k, 2), want[k][1]);
        }
        edges.promise(7, "-2: there is none such (of either), or for another what.");
        edges.onlyYears("how many", -2, (y, at) -> y.deed(at, -1, 0));
        edges.onlyYears("deed 0", -2, (y, at) -> y.deed(at, 0, 0));
        for (int what = 0; what < 3; what++) {
            int one = what;
            edges.only("deed", Examples.full(0, 1, 0), 0, 39, -2, (y, k) -> k == -1 && one == 0 ? -2 : y.deed(0, k, one));
        }
        edges.only("deeds of a short year", x, 0, 4, -2, (y, k) -> y.deed(0, k, 2));
        for (int k = 0; k < 5; k++) {
            int one = k;
            edges.only("what", x, 0, 2, -2, (y, what) -> y.deed(0, one, what));
        }
        Kit.tell(x, 1, "");
        edges.only("deeds of an empty year", x, 0, -1, -2, (y, k) -> y.deed(1, k, 2));
    }

    private void tillNoneSuch() {
        edges.promise(8, "NONE: there is none such (of either).");
        edges.onlyCoasts("till", -1, (x, at) -> x.till(at, 0));
        edges.onlyYears("till", -1, (x, at) -> x.till(0, at));
        edges.due("neither", new GodWeathers().till(0, 0), -1);
    }

    private void stateNoneSuch() {
        edges.promise(9, "NONE: there is no such STATE, it is none of its GODPARENTS, or for another what.");
        edges.onlyCoasts("state", -1, (x, at) -> x.state(at, 0, 0, 0));
        edges.onlyYears("state", -1, (x, at) -> x.state(0, at, 0, 0));
        GodWeathers x = Examples.full(1, 1, 0);
        edges.only("state", x, 0, 40, -1, (y, n) -> y.state(0, 0, n, 0));
        edges.only("what", x, 0, 5, -1, (y, what) -> y.state(0, 0, 40, what));
        edges.only("offended", x, 10, 15, -1, (y, what) -> y.state(0, 0, 40, what));
        edges.due("between", x.state(0, 0, 40, 99), -1);
        for (int what = 100; what < 150; what++) {
            int c = (what - 100) / 8;
            boolean isOne = c < 6 && (x.coast(0, 40 + c) >> (what - 100) % 8 & 1) != 0;
            edges.due("godparent, " + what, x.state(0, 0, 0, what), isOne ? 0 : -1);
        }
        x = Kit.coastAndYear("child 5 6 7;", "");
        edges.only("offended with one child", x, 10, 10, -1, (y, what) -> y.state(0, 0, 0, what));
        edges.only("godparents of one child", x, 105, 107, -1, (y, what) -> y.state(0, 0, 0, what));
        x = Kit.coastAndYear("", "");
        edges.only("offended without children", x, 10, 9, -1, (y, what) -> y.state(0, 0, 0, what));
        edges.due("godparent without children", x.state(0, 0, 0, 100), -1);
    }

    private void drawnNoneSuch() {
        edges.promise(20, "NONE: there is none such, another n, or for another what.");
        edges.onlyCoasts("drawn", -1, (x, at) -> x.drawn(at, 5, 10, 0));
        GodWeathers x = Examples.full(1, 0, 0);
        int[] seeds = {0, -1, LEAST, GREATEST};
        for (int seed : seeds) {
            edges.only("n", x, 0, 60, -1, (y, n) -> y.drawn(0, seed, n, 0));
            edges.only("what", x, 0, 5, -1, (y, what) -> y.drawn(0, seed, 60, what));
            edges.only("offended", x, 10, 15, -1, (y, what) -> y.drawn(0, seed, 60, what));
            edges.only("godparents of the first", x, 100, 102, -1, (y, what) -> y.drawn(0, seed, 60, what));
            edges.only("godparents of the last", x, 145, 147, -1, (y, what) -> y.drawn(0, seed, 60, what));
        }
    }

    private void firsts() {
        edges.terms(6, "FIRST of a CHILD: behind how few days, if it neither asks nor thanks, one is OFFENDED with it; who, of several the least.");
        for (int patience = 1; patience <= 9; patience++) {
            GodWeathers x = Kit.coast("child 0 3 7;patience 0 9;patience 3 " + patience + ";patience 7 " + patience + ";patience 1 1;");
            edges.due("days by " + patience, x.first(0, 0, false), patience + 1);
            edges.due("who by " + patience, x.first(0, 0, true), patience == 9 ? 0 : 3);
            Kit.tell(x, 1, Kit.times(patience + 1, "day;"));
            edges.due("as the year has it", x.state(0, 0, patience, 10), 0);
            edges.due("as the year has it", x.state(0, 0, patience + 1, 10), patience == 9 ? 137 : 136);
        }
        edges.promise(38, "NONE: there is none such (of either).");
        boolean[] both = {false, true};
        for (boolean who : both) {
            edges.onlyCoasts("first", -1, (x, at) -> x.first(at, 0, who));
            edges.onlyChildren("first", -1, (x, c) -> x.first(0, c, who));
        }
    }

    private void kept() {
        edges.terms(6, "KEPT of a CHILD, n days, 1 .. 99: how many thanks it takes at least, so that nobody is OFFENDED with it in n days.");
        int[][] byPatience = {{1, 1, 0}, {1, 2, 3}, {1, 3, 6}, {1, 99, 294}, {2, 2, 0}, {2, 3, 3}, {2, 99, 147}, {8, 8, 0}, {8, 9, 3},
            {8, 97, 36}, {8, 96, 33}, {9, 1, 0}, {9, 9, 0}, {9, 10, 3}, {9, 18, 3}, {9, 19, 6}, {9, 99, 30}};
        for (int[] row : byPatience) {
            GodWeathers x = Kit.coast("child 1 2 3;patience 1 " + row[0] + ";patience 2 " + row[0] + ";patience 3 " + row[0] + ";");
            edges.due("kept by " + row[0] + " in " + row[1], x.kept(0, 0, row[1]), row[2]);
        }
        String patient = ONE_CHILD + "patience 0 9;patience 1 9;patience 2 9;";
        state(patient, Kit.times(9, "day;"), 4, 0);
        state(patient, Kit.times(10, "day;"), 4, 3);
        state(patient, Kit.times(9, "day;") + "thank 0 0;thank 0 1;thank 0 2;" + Kit.times(9, "day;"), 4, 0);
        state(patient, Kit.times(9, "day;") + "thank 0 0;thank 0 1;" + Kit.times(9, "day;"), 4, 1);
        state(patient, Kit.times(9, "day;") + "thank 0 0;thank 0 1;thank 0 2;" + Kit.times(10, "day;"), 4, 3);
        edges.due("by unlike patience", Kit.coast("child 0 1 2;patience 0 1;patience 1 2;patience 2 9;").kept(0, 0, 10), 9 + 4 + 1);
        edges.promise(39, "NONE: another n, or there is none such (of either).");
        edges.only("n", Kit.coast(ONE_CHILD), 1, 99, -1, (x, n) -> x.kept(0, 0, n));
        edges.onlyCoasts("kept", -1, (x, at) -> x.kept(at, 0, 1));
        edges.onlyChildren("kept", -1, (x, c) -> x.kept(0, c, 99));
    }

    private void after(String coast, String year, int what, int want) {
        edges.due("after " + what + " of " + year + " on " + coast, Kit.coastAndYear(coast, year).after(0, 0, what), want);
    }

    private void upToEnd() {
        edges.terms(6, "Of a YEAR in a COAST, behind all DEEDS up to END:");
        String ahead = "come 7;thank 0 0;day;";
        String behind = "come 0;come 1;thank 0 1;ask 0 0;day;day;day;";
        int[] stopped = {-1, -1, 1, -1, 1, 3};
        int[] whole = {9, 1, 2, 0, 2, 3};
        for (int what = 0; what < 6; what++) {
            after(ONE_CHILD + "work 1;work 1;patience 1 2;needs 1 0;", ahead + "do 1;" + behind, what, stopped[what]);
            after(ONE_CHILD + "work 1;work 1;patience 1 2;needs 1 0;", ahead + behind, what, whole[what]);
            after(ONE_CHILD + "work 1;work 1;", "do 2;" + ahead, what, new int[] {-1, -1, 0, -1, 0, 3}[what]);
        }
    }

    private void behindAll() {
        edges.terms(6, "OFFENCE: the DEED (from 0 on) by which one was first OFFENDED (none);");
        after("", Kit.times(40, "day;"), 0, -1);
        after(ONE_CHILD, "", 0, -1);
        after(ONE_CHILD, "day;day;day;", 0, -1);
        after(ONE_CHILD, "day;day;day;day;", 0, 3);
        after(ONE_CHILD, "come 0;day;day;come 0;day;day;day;", 0, 5);
        after(ONE_CHILD + "patience 0 1;", "day;day;thank 0 0;day;day;", 0, 1);
        after(ONE_CHILD, "day;day;day;do 0;day;", 0, -1);
        after(ONE_CHILD + "patience 1 1;", Kit.times(19, "day;thank 0 1;") + "day;day;", 0, 6);
        edges.terms(6, "WHOM: then, by numbers, the first CHILD and WEATHER (10 times the CHILD, and the WEATHER; none);");
        after("", Kit.times(40, "day;"), 1, -1);
        after(ONE_CHILD, "day;day;day;", 1, -1);
        after(ONE_CHILD, "day;day;day;day;", 1, 0);
        after("child 7 6 5;", "day;day;day;day;", 1, 5);
        after(ONE_CHILD + "child 5 6 7;patience 7 1;", "day;day;day;day;", 1, 17);
        after(ONE_CHILD + "child 2 6 7;patience 2 1;", "day;day;", 1, 2);
        after(Kit.times(5, "child 0 1 2;") + "child 5 6 7;patience 7 1;", "day;day;day;", 1, 57);
        after(ONE_CHILD + "patience 2 1;", "day;day;thank 0 2;day;day;day;day;", 1, 2);
        edges.terms(6, "MOST: the most WEATHERS that were HERE in any STATE;");
        after("", "", 2, 0);
        after("", "day;", 2, 0);
        after("", "come 0;day;", 2, 1);
        after("", "come 0;come 0;", 2, 1);
        after("oppose 0 1;", "come 0;come 1;", 2, 1);
        after("", "come 0;come 1;day;come 2;", 2, 2);
        after("", "come 0;do 0;come 1;", 2, 1);
        after("", "come 0;come 1;come 2;come 3;come 4;come 5;come 6;come 7;", 2, 8);
        eagerThanksSpoilt();
    }

    private void eagerThanksSpoilt() {
        edges.terms(6, "EAGER: the CHILD that asked most often, of several the least (none);");
        String two = ONE_CHILD + "child 0 1 2;";
        after("", "", 3, -1);
        after(two, "thank 1 0;", 3, -1);
        after(two, "ask 1 0;", 3, 1);
        after(two, "ask 1 0;ask 0 0;", 3, 0);
        after(two, "ask 1 0;ask 0 0;day;ask 1 0;", 3, 1);
        after(two, "ask 1 0;ask 1 0;ask 0 0;", 3, 1);
        after(Examples.coastOf(6, 0), "ask 5 7;", 3, 5);
        edges.terms(6, "THANKS: how many;");
        after(two, "", 4, 0);
        after(two, Kit.times(40, "thank 1 2;"), 4, 40);
        after(two, "thank 0 0;thank 1 0;thank 2 0;thank 0 0;", 4, 2);
        edges.terms(6, "SPOILT: WORKS (bits) that are not DONE.");
        after("", "", 5, 0);
        after(Kit.times(6, "work 1;"), "", 5, 63);
        after(Kit.times(6, "work 1;"), "do 5;do 0;do 0;do 1;", 5, 30);
        after(Kit.times(6, "work 1;"), "do 0;do 1;do 2;do 3;do 4;do 5;", 5, 0);
    }

    private void afterNoneSuch() {
        edges.promise(40, "What 0: OFFENCE (NONE), 1: WHOM (NONE), 2: MOST, 3: EAGER (NONE), 4: THANKS, 5: SPOILT (bits).");
        GodWeathers x = Kit.coastAndYear("", "");
        int[] want = {-1, -1, 0, -1, 0, 0};
        for (int what = 0; what < 6; what++) {
            edges.due("of nothing, " + what, x.after(0, 0, what), want[what]);
        }
        edges.promise(40, "-2: there is none such (of either), or for another what.");
        for (int what = 0; what < 6; what++) {
            int one = what;
            edges.onlyCoasts("after", -2, (y, at) -> y.after(at, 0, one));
            edges.onlyYears("after", -2, (y, at) -> y.after(0, at, one));
        }
        edges.only("what", x, 0, 5, -2, (y, what) -> y.after(0, 0, what));
    }
}
