/** The edges of VILLAGE, BOATS, KIN, CLAN, RAFT, SEATS, LONE, DEAREST and NEAR; promises 13, 14, 21 to 24 and 36. */
final class CrewEdges {
    private static final boolean[] BOTH = {false, true};
    private static final String SIX_ALIKE = Kit.times(6, "child 0 1 2;");

    private final Edges edges;

    private CrewEdges(Edges edges) {
        this.edges = edges;
    }

    static void ask(Edges edges) {
        CrewEdges e = new CrewEdges(edges);
        e.village();
        e.boats();
        e.seats();
        e.kin();
        e.clans();
        e.twins();
        e.raft();
        e.couples();
        e.clanNoneSuch();
        e.lone();
        e.dearest();
        e.near();
    }

    private void villageOf(String coast, int who) {
        GodWeathers x = Kit.coast(coast);
        edges.due("village of " + coast, x.village(0, false), Integer.bitCount(who));
        edges.due("village who of " + coast, x.village(0, true), who);
    }

    private void village() {
        edges.terms(3, "VILLAGE: the fewest CHILDREN that have all WEATHERS as GODPARENTS that any CHILD has: how many; who (bits), of several the least.");
        villageOf("", 0);
        villageOf("child 0 1 2;", 1);
        villageOf(SIX_ALIKE, 1);
        villageOf(Kit.times(5, "child 0 1 2;") + "child 5 6 7;", 33);
        villageOf("child 0 1 2;child 2 3 4;child 0 1 3;child 3 4 5;child 4 5 2;", Kit.bits(0, 3));
        villageOf("child 0 1 2;child 1 2 3;child 2 3 4;child 3 4 5;child 4 5 6;child 5 6 7;", Kit.bits(0, 2, 5));
        villageOf("child 7 0 1;child 7 0 2;child 7 0 3;child 7 0 4;child 7 0 5;child 7 0 6;", 63);
        villageOf("child 0 1 2;child 0 1 3;child 0 1 2;child 0 1 3;", 3);
        edges.promise(13, "NONE: there is none such.");
        for (boolean who : BOTH) {
            edges.onlyCoasts("village", -1, (x, at) -> x.village(at, who));
        }
    }

    private void boats() {
        edges.terms(3, "BOATS of n, 1 .. 6: the fewest boats for all CHILDREN, no more than n in one, no two in one that share a GODPARENT.");
        String[] coasts = {"", "child 0 1 2;", "child 0 1 2;child 3 4 5;", "child 0 1 2;child 2 3 4;", SIX_ALIKE, Examples.TWO_CLANS};
        int[][] want = {{0, 0, 0}, {1, 1, 1}, {2, 1, 1}, {2, 2, 2}, {6, 6, 6}, {6, 3, 3}};
        for (int i = 0; i < coasts.length; i++) {
            GodWeathers x = Kit.coast(coasts[i]);
            edges.due("boats of 1 of " + coasts[i], x.boats(0, 1), want[i][0]);
            edges.due("boats of 2 of " + coasts[i], x.boats(0, 2), want[i][1]);
            edges.due("boats of 6 of " + coasts[i], x.boats(0, 6), want[i][2]);
        }
        edges.promise(14, "NONE: another n, or there is none such.");
        edges.only("n", Kit.coast(Examples.TWO_CLANS), 1, 6, -1, (x, n) -> x.boats(0, n));
        edges.only("n without children", Kit.coast(""), 1, 6, -1, (x, n) -> x.boats(0, n));
        edges.onlyCoasts("boats", -1, (x, at) -> x.boats(at, 1));
    }

    private void seatsOf(String coast, int n, int... row) {
        GodWeathers x = Kit.coast(coast);
        for (int c = 0; c < row.length; c++) {
            edges.due("seat of " + c + " by " + n + " of " + coast, x.seat(0, n, c), row[c]);
        }
        edges.due("one child more", x.seat(0, n, row.length), -1);
    }

    private void seats() {
        edges.terms(6, "SEATS of n, 1 .. 6: in which boat, 0 the first, each CHILD is, if there are as few as BOATS of n: the first row by numbers.");
        seatsOf("", 1);
        seatsOf("child 0 1 2;", 6, 0);
        seatsOf(SIX_ALIKE, 6, 0, 1, 2, 3, 4, 5);
        seatsOf(Examples.TWO_CLANS, 1, 0, 1, 2, 3, 4, 5);
        seatsOf(Examples.TWO_CLANS, 6, 0, 0, 1, 1, 2, 2);
        seatsOf("child 0 1 2;child 3 4 5;child 0 1 2;child 3 4 5;", 2, 0, 0, 1, 1);
        // The first two could share a boat, but then there would be three.
        seatsOf("child 0 1 2;child 3 4 5;child 3 6 7;child 0 6 7;", 2, 0, 1, 0, 1);
        edges.promise(36, "NONE: another n, or there is none such (of either).");
        edges.only("n", Kit.coast(Examples.TWO_CLANS), 1, 6, -1, (x, n) -> x.seat(0, n, 5));
        edges.onlyCoasts("seat", -1, (x, at) -> x.seat(at, 1, 0));
        edges.onlyChildren("seat", -1, (x, c) -> x.seat(0, 1, c));
        edges.onlyChildren("seat", -1, (x, c) -> x.seat(0, 6, c));
    }

    private void kin() {
        edges.terms(6, "KIN of two CHILDREN: how many GODPARENTS they share.");
        GodWeathers x = Kit.coast("child 0 1 2;child 2 1 0;child 1 2 3;child 2 3 4;child 3 4 5;");
        int[] want = {3, 3, 2, 1, 0};
        for (int c = 0; c < 5; c++) {
            edges.due("kin of 0 and " + c, x.kin(0, 0, c), want[c]);
            edges.due("kin of " + c + " and 0", x.kin(0, c, 0), want[c]);
            edges.due("kin of " + c + " and itself", x.kin(0, c, c), 3);
        }
        edges.promise(21, "NONE: there is none such (of any).");
        edges.onlyCoasts("kin", -1, (y, at) -> y.kin(at, 0, 0));
        edges.onlyChildren("kin, the one", -1, (y, c) -> y.kin(0, c, 0));
        edges.onlyChildren("kin, the other", -1, (y, c) -> y.kin(0, 0, c));
    }

    private void clan(String coast, int what, int want) {
        edges.due("clan " + what + " of " + coast, Kit.coast(coast).clan(0, what), want);
    }

    private void clans() {
        edges.terms(6, "CLAN of a CHILD: CHILDREN (bits) to which one comes by KIN above 0, one behind the other (itself, too); CLANS: how many unlike ones there are;");
        clan("", 0, 0);
        clan("child 0 1 2;", 0, 1);
        clan("child 0 1 2;", 10, 1);
        clan("child 0 1 2;child 3 4 5;", 0, 2);
        clan("child 0 1 2;child 3 4 5;", 10, 1);
        clan("child 0 1 2;child 3 4 5;", 11, 2);
        clan(SIX_ALIKE, 0, 1);
        clan(SIX_ALIKE, 15, 63);
        // The ends of a chain that is told from both sides to the middle.
        String chain = "child 0 1 2;child 5 6 7;child 2 3 4;child 4 5 1;";
        clan(chain, 0, 1);
        clan(chain, 10, 15);
        clan(chain, 11, 15);
        clan("child 3 4 5;child 0 1 2;child 5 6 7;", 12, 5);
    }

    private void twins() {
        edges.terms(6, "TWINS: couples of CHILDREN that share all three: how many.");
        clan("", 1, 0);
        clan("child 0 1 2;", 1, 0);
        clan("child 0 1 2;child 1 2 3;", 1, 0);
        clan("child 0 1 2;child 2 1 0;", 1, 1);
        clan(SIX_ALIKE, 1, 15);
        clan("child 0 1 2;child 5 6 7;child 0 1 2;child 5 6 7;", 1, 2);
    }

    private void raft() {
        edges.terms(6, "RAFT: the most CHILDREN of which no two share a GODPARENT: how many; who (bits), of several the least.");
        String[] coasts = {"", "child 0 1 2;", SIX_ALIKE, Kit.times(5, "child 0 1 2;") + "child 5 6 7;",
            "child 0 1 2;child 2 3 4;child 4 5 6;child 3 5 7;", "child 0 3 6;child 0 1 2;child 3 4 5;"};
        int[] who = {0, 1, 1, 33, 5, 6};
        for (int i = 0; i < who.length; i++) {
            clan(coasts[i], 2, Integer.bitCount(who[i]));
            clan(coasts[i], 3, who[i]);
        }
    }

    private void couples() {
        edges.terms(6, "COUPLES: how many couples there can be at once of two that share no GODPARENT, each CHILD in one at most.");
        clan("", 4, 0);
        clan("child 0 1 2;", 4, 0);
        clan("child 0 1 2;child 2 3 4;", 4, 0);
        clan("child 0 1 2;child 3 4 5;", 4, 1);
        clan("child 0 1 2;child 3 4 5;child 3 4 5;", 4, 1);
        clan("child 0 3 6;child 0 1 2;child 3 4 5;", 4, 1);
        clan("child 0 1 2;child 0 1 2;child 3 4 5;child 3 4 5;", 4, 2);
        clan(SIX_ALIKE, 4, 0);
        clan(Kit.times(5, "child 0 1 2;") + "child 5 6 7;", 4, 1);
        clan(Kit.times(3, "child 0 1 2;") + Kit.times(3, "child 5 6 7;"), 4, 3);
        // The first with the second would leave none for the other two.
        clan("child 0 1 2;child 3 4 5;child 3 6 7;child 0 6 7;", 4, 2);
    }

    private void clanNoneSuch() {
        edges.promise(22, "-2: there is none such (of either), or for another what.");
        for (int what = 0; what < 8; what++) {
            int one = what;
            edges.onlyCoasts("clan", -2, (x, at) -> x.clan(at, one));
        }
        edges.onlyCoasts("clan of a child", -2, (x, at) -> x.clan(at, 10));
        edges.only("what", Kit.coast(Examples.coastOf(6, 6)), 0, 7, -2, (x, what) -> x.clan(0, what));
        edges.only("clans of six", Kit.coast(Examples.coastOf(6, 6)), 10, 15, -2, (x, what) -> x.clan(0, what));
        edges.only("clans of one", Kit.coast(Examples.coastOf(1, 6)), 10, 10, -2, (x, what) -> x.clan(0, what));
        edges.only("clans of none", Kit.coast(""), 10, 9, -2, (x, what) -> x.clan(0, what));
    }

    private void lone() {
        edges.terms(6, "LONE: CHILDREN (bits) that share no GODPARENT with any other;");
        String[] coasts = {"", "child 0 1 2;", "child 0 1 2;child 2 3 4;", "child 0 1 2;child 3 4 5;", SIX_ALIKE,
            Kit.times(5, "child 0 1 2;") + "child 5 6 7;"};
        int[] want = {0, 1, 0, 3, 0, 32};
        for (int i = 0; i < want.length; i++) {
            edges.due("lone of " + coasts[i], Kit.coast(coasts[i]).lone(0, false), want[i]);
        }
        edges.promise(23, "-2: there is none such.");
        for (boolean work : BOTH) {
            edges.onlyCoasts("lone", -2, (x, at) -> x.lone(at, work));
        }
    }

    private void dearest() {
        edges.terms(6, "DEAREST: the WORK that is WORTH most, of several the least (none: no WORKS).");
        String[] coasts = {"", "child 0 1 2;", "work 0;", "work 0;work 0;", "work 0;work 1;work 1;", Kit.times(5, "work 19;") + "work 20;",
            Kit.times(6, "work 20;")};
        int[] want = {-1, -1, 0, 0, 1, 5, 0};
        for (int i = 0; i < want.length; i++) {
            edges.due("dearest of " + coasts[i], Kit.coast(coasts[i]).lone(0, true), want[i]);
        }
        edges.promise(23, "or (work) DEAREST (NONE).");
        edges.due("no works", Kit.coast("").lone(0, true), -1);
        edges.due("a work", Kit.coast("work 0;").lone(0, true), 0);
    }

    private void near() {
        edges.terms(6, "NEAR of some WEATHERS (bits): CHILDREN (bits) of whose GODPARENTS two or more are among these.");
        GodWeathers x = Kit.coast(Kit.times(5, "child 0 1 2;") + "child 5 6 7;");
        int[][] want = {{0, 0}, {1, 0}, {128, 0}, {3, 31}, {7, 31}, {192, 32}, {224, 32}, {129, 0}, {195, 63}, {255, 63}};
        for (int[] row : want) {
            edges.due("near " + row[0], x.near(0, row[0]), row[1]);
        }
        edges.due("without children", Kit.coast("").near(0, 255), 0);
        edges.promise(24, "NONE: others than bits of 0 .. 255, or there is none such.");
        edges.only("bits", x, 0, 255, -1, (y, bits) -> y.near(0, bits));
        edges.onlyCoasts("near", -1, (y, at) -> y.near(at, 0));
        edges.onlyCoasts("near", -1, (y, at) -> y.near(at, 255));
    }
}
