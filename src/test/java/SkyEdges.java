/** The edges of ODDS, RIVALS, CALM, LADDER, STORM, LACK, LEVY, READY, HOPE and TIDE; promises 12, 25 to 27, 32 to 34 and 37. */
final class SkyEdges {
    private static final boolean[] BOTH = {false, true};

    private final Edges edges;

    private SkyEdges(Edges edges) {
        this.edges = edges;
    }

    static void ask(Edges edges) {
        SkyEdges e = new SkyEdges(edges);
        e.odds();
        e.rivals();
        e.calm();
        e.ladder();
        e.storm();
        e.lack();
        e.levy();
        e.ready();
        e.hope();
        e.tide();
    }

    /** A line for each weather. */
    private static String forAll(String before, String behind) {
        StringBuilder text = new StringBuilder();
        for (int w = 0; w < 8; w++) {
            text.append(before).append(w).append(behind);
        }
        return text.toString();
    }

    /** All couples oppose each other. */
    private static String strife() {
        StringBuilder text = new StringBuilder();
        for (int a = 0; a < 8; a++) {
            for (int b = a + 1; b < 8; b++) {
                text.append("oppose ").append(a).append(' ').append(b).append(';');
            }
        }
        return text.toString();
    }

    private void oddsOf(String coast, int asked, long over, long under) {
        GodWeathers x = Kit.coast(coast);
        edges.due("odds of " + coast + " asked " + asked, x.odds(0, 0, asked, false), over);
        edges.due("odds under of " + coast + " asked " + asked, x.odds(0, 0, asked, true), under);
    }

    private void odds() {
        edges.terms(3, "these are HERE for sure, each other one COMES by its CHANCE of ten, by itself (OPPOSING ones aside): how likely all that it NEEDS are HERE, a fraction in least terms.");
        String all = "work 1;" + forAll("needs 0 ", ";");
        oddsOf("work 1;", 0, 1, 1);
        oddsOf("work 1;" + forAll("weather ", " 0;"), 0, 1, 1);
        oddsOf(all, 0, 6561, 100000000);
        oddsOf(all, 127, 3, 10);
        oddsOf(all, 254, 3, 10);
        oddsOf(all, 255, 1, 1);
        oddsOf(all + forAll("weather ", " 10;"), 0, 1, 1);
        oddsOf(all + forAll("weather ", " 1;"), 0, 1, 100000000);
        oddsOf(all + forAll("weather ", " 9;"), 0, 43046721, 100000000);
        oddsOf(all + "weather 7 0;", 0, 0, 1);
        oddsOf(all + "weather 7 0;", 127, 0, 1);
        oddsOf(all + "weather 7 0;", 255, 1, 1);
        oddsOf("work 1;needs 0 0;needs 0 1;oppose 0 1;", 0, 9, 100);
        oddsOf("work 1;needs 0 0;needs 0 1;oppose 0 1;", 1, 3, 10);
        oddsOf("work 1;needs 0 0;weather 0 5;", 128, 1, 2);
        edges.promise(12, "NONE: others than bits of 0 .. 255, or there is none such (of either).");
        for (boolean under : BOTH) {
            edges.only("bits", Kit.coast(all), 0, 255, -1, (x, bits) -> x.odds(0, 0, bits, under));
            edges.onlyCoasts("odds", -1, (x, at) -> x.odds(at, 0, 0, under));
            edges.onlyWorks("odds", -1, (x, work) -> x.odds(0, work, 255, under));
        }
    }

    private void rivals() {
        edges.terms(6, "RIVALS: couples of WEATHERS that OPPOSE each other: how many.");
        String[] coasts = {"", "oppose 0 7;", "oppose 0 7;oppose 7 0;oppose 0 7;", "oppose 0 7;oppose 0 6;", strife()};
        int[] want = {0, 1, 1, 2, 28};
        for (int i = 0; i < want.length; i++) {
            edges.due("rivals of " + coasts[i], Kit.coast(coasts[i]).clan(0, 5), want[i]);
        }
    }

    private void calm() {
        edges.terms(6, "CALM: the most WEATHERS of which no two OPPOSE each other: how many; which (bits), of several the least.");
        String[] coasts = {"", "oppose 0 7;", "oppose 6 7;", "oppose 0 1;oppose 0 2;", strife()};
        int[] want = {255, 127, 127, 254, 1};
        for (int i = 0; i < want.length; i++) {
            edges.due("calm of " + coasts[i], Kit.coast(coasts[i]).clan(0, 6), Integer.bitCount(want[i]));
            edges.due("calm, which, of " + coasts[i], Kit.coast(coasts[i]).clan(0, 7), want[i]);
        }
    }

    private void ladderOf(String coast, int... row) {
        GodWeathers x = Kit.coast(coast);
        edges.due("ladder of " + coast, x.ladder(0, -1), row.length);
        for (int k = 0; k < row.length; k++) {
            edges.due("ladder " + k + " of " + coast, x.ladder(0, k), row[k]);
        }
        edges.only("k on " + coast, x, -1, row.length - 1, -1, (y, k) -> y.ladder(0, k));
    }

    private void ladder() {
        edges.promise(25, "LADDER: how many (k NONE; 0: none OPPOSE), or the k-th.");
        ladderOf("");
        ladderOf("weather 0 0;child 0 1 2;");
        ladderOf("oppose 7 6;", 6, 7);
        ladderOf("oppose 0 7;oppose 3 4;", 0, 7);
        edges.terms(6, "LADDER: the longest row of unlike WEATHERS, each of which OPPOSES the next one: how many; the first row by numbers: the k-th.");
        ladderOf(Examples.coastOf(0, 0), 0, 1, 2, 3, 4, 5, 6, 7);
        ladderOf(strife(), 0, 1, 2, 3, 4, 5, 6, 7);
        ladderOf("oppose 5 1;oppose 5 3;oppose 5 7;", 1, 5, 3);
        ladderOf("oppose 7 0;oppose 0 6;oppose 6 1;oppose 1 5;oppose 5 2;oppose 2 4;oppose 4 3;", 3, 4, 2, 5, 1, 6, 0, 7);
        ladderOf("oppose 0 1;oppose 1 2;oppose 2 0;oppose 2 3;", 0, 1, 2, 3);
        ladderOf("oppose 0 1;oppose 0 2;", 1, 0, 2);
        edges.promise(25, "NONE: not so many, or there is none such.");
        GodWeathers two = Kit.coast(strife());
        Kit.tell(two, 0, "oppose 6 7;");
        for (int round = 0; round < 2; round++) {
            edges.due("the long one", two.ladder(0, -1), 8);
            edges.due("its last", two.ladder(0, 7), 7);
            edges.due("the short one", two.ladder(1, -1), 2);
            edges.due("its last", two.ladder(1, 1), 7);
            edges.due("not so many", two.ladder(1, 2), -1);
        }
        edges.onlyCoasts("ladder", -1, (x, at) -> x.ladder(at, -1));
        edges.onlyCoasts("ladder", -1, (x, at) -> x.ladder(at, 7));
    }

    private void stormOf(String coast, int n, long over, long under) {
        GodWeathers x = Kit.coast(coast);
        edges.due("storm of " + n + " on " + coast, x.storm(0, n, false), over);
        edges.due("storm under of " + n + " on " + coast, x.storm(0, n, true), under);
    }

    private void storm() {
        edges.terms(6, "STORM of n, 0 .. 8: each WEATHER COMES by its CHANCE of ten on a day, by itself: how likely n or more do (OPPOSING ones aside), a fraction in least terms.");
        String never = forAll("weather ", " 0;");
        String always = forAll("weather ", " 10;");
        stormOf("", 0, 1, 1);
        stormOf("", 1, 94235199, 100000000);
        stormOf("", 8, 6561, 100000000);
        stormOf(never, 0, 1, 1);
        stormOf(never, 1, 0, 1);
        stormOf(never, 8, 0, 1);
        stormOf(always, 8, 1, 1);
        stormOf(always + strife(), 8, 1, 1);
        stormOf(always + "weather 7 0;", 7, 1, 1);
        stormOf(always + "weather 7 0;", 8, 0, 1);
        stormOf(never + "weather 0 5;weather 7 5;", 1, 3, 4);
        stormOf(never + "weather 0 5;weather 7 5;", 2, 1, 4);
        stormOf(never + "weather 0 5;weather 7 5;", 3, 0, 1);
        edges.promise(26, "NONE: another n, or there is none such.");
        for (boolean under : BOTH) {
            edges.only("n", Kit.coast(""), 0, 8, -1, (x, n) -> x.storm(0, n, under));
            edges.onlyCoasts("storm", -1, (x, at) -> x.storm(at, 0, under));
            edges.onlyCoasts("storm", -1, (x, at) -> x.storm(at, 8, under));
        }
    }

    private void lack() {
        edges.terms(6, "LACK of a WORK: WEATHERS that it NEEDS, and that are no CHILD's GODPARENTS (bits).");
        String all = "work 1;" + forAll("needs 0 ", ";");
        edges.due("nobody has any", Kit.coast(all).lack(0, 0), 255);
        edges.due("needs none", Kit.coast("work 1;").lack(0, 0), 0);
        edges.due("all but the last three", Kit.coast(all + "child 0 1 2;child 2 3 4;").lack(0, 0), 224);
        edges.due("none", Kit.coast(all + "child 0 1 2;child 3 4 5;child 0 6 7;").lack(0, 0), 0);
        edges.promise(27, "NONE: there is none such (of either).");
        edges.onlyCoasts("lack", -1, (x, at) -> x.lack(at, 0));
        edges.onlyWorks("lack", -1, (x, work) -> x.lack(0, work));
    }

    private void levyOf(String coast, int... want) {
        GodWeathers x = Kit.coast(coast);
        for (int n = 0; n <= 6; n++) {
            edges.due("levy of " + n + " on " + coast, x.levy(0, n), n < want.length ? want[n] : -1);
        }
    }

    private void levy() {
        edges.terms(6, "LEVY of n, 0 .. 6: n WORKS of which no two NEED the same WEATHER, so that they are WORTH most together.");
        levyOf("", 0);
        levyOf("work 0;", 0, 0);
        levyOf("work 3;", 0, 3);
        levyOf(Kit.times(6, "work 20;"), 0, 20, 40, 60, 80, 100, 120);
        levyOf("work 3;work 5;needs 0 7;needs 1 7;", 0, 5);
        levyOf("work 3;work 5;needs 0 7;needs 1 6;", 0, 5, 8);
        levyOf("work 20;needs 0 0;needs 0 7;work 3;needs 1 0;work 4;needs 2 7;", 0, 20, 7);
        levyOf("work 1;needs 0 0;work 1;needs 1 1;work 1;needs 2 0;", 0, 1, 2);
        levyOf(Examples.coastOf(0, 6), 0, 20, 40, 60, 80, 99, 99);
        edges.promise(32, "NONE: there are not so many, another n, or there is none such.");
        for (int works = 0; works <= 6; works++) {
            int many = works;
            edges.only("of " + works + " works", Kit.coast(Examples.coastOf(0, works)), 0, many, -1, (x, n) -> x.levy(0, n));
        }
        edges.only("of two that need the same", Kit.coast("work 3;work 5;needs 0 7;needs 1 7;"), 0, 1, -1, (x, n) -> x.levy(0, n));
        edges.onlyCoasts("levy", -1, (x, at) -> x.levy(at, 0));
        edges.onlyCoasts("levy", -1, (x, at) -> x.levy(at, 6));
    }

    private void ready() {
        edges.terms(6, "READY of some WEATHERS (bits): WORKS (bits) of which all they NEED are among these.");
        GodWeathers x = Kit.coast("work 1;work 1;needs 1 0;work 1;needs 2 0;needs 2 7;work 1;" + forAll("needs 3 ", ";"));
        int[][] want = {{0, 1}, {1, 3}, {128, 1}, {129, 7}, {254, 1}, {127, 3}, {255, 15}};
        for (int[] row : want) {
            edges.due("ready " + row[0], x.ready(0, row[0]), row[1]);
        }
        edges.due("without works", Kit.coast("").ready(0, 255), 0);
        edges.due("six works", Kit.coast(Kit.times(6, "work 1;")).ready(0, 0), 63);
        edges.promise(33, "NONE: others than bits of 0 .. 255, or there is none such.");
        edges.only("bits", x, 0, 255, -1, (y, bits) -> y.ready(0, bits));
        edges.onlyCoasts("ready", -1, (y, at) -> y.ready(at, 0));
        edges.onlyCoasts("ready", -1, (y, at) -> y.ready(at, 255));
    }

    private void hopeOf(String coast, long over, long under) {
        GodWeathers x = Kit.coast(coast);
        edges.due("hope of " + coast, x.hope(0, 0, false), over);
        edges.due("hope under of " + coast, x.hope(0, 0, true), under);
    }

    private void hope() {
        edges.terms(6, "HOPE of a WORK: how many days it takes in the mean until all it NEEDS COME by themselves on one day (as by ODDS, that day counting), a fraction in least terms.");
        String all = "work 1;" + forAll("needs 0 ", ";");
        hopeOf("work 1;", 1, 1);
        hopeOf("work 1;" + forAll("weather ", " 0;"), 1, 1);
        hopeOf("work 1;needs 0 0;weather 0 10;", 1, 1);
        hopeOf("work 1;needs 0 0;weather 0 1;", 10, 1);
        hopeOf("work 1;needs 0 0;weather 0 4;", 5, 2);
        hopeOf("work 1;needs 0 0;needs 0 1;oppose 0 1;", 100, 9);
        hopeOf(all, 100000000, 6561);
        hopeOf(all + forAll("weather ", " 1;"), 100000000, 1);
        edges.promise(34, "NONE: never, or there is none such (of either).");
        hopeOf("work 1;needs 0 7;weather 7 0;", -1, -1);
        hopeOf(all + "weather 0 0;", -1, -1);
        for (boolean under : BOTH) {
            edges.onlyCoasts("hope", -1, (x, at) -> x.hope(at, 0, under));
            edges.onlyWorks("hope", -1, (x, work) -> x.hope(0, work, under));
        }
    }

    private void tideOf(String coast, int v, int which) {
        GodWeathers x = Kit.coast(coast);
        edges.due("tide of " + v + " on " + coast, x.tide(0, v, false), which < 0 ? -1 : Integer.bitCount(which));
        edges.due("tide of " + v + ", which, on " + coast, x.tide(0, v, true), which);
    }

    private void tide() {
        edges.terms(6, "TIDE of v, 0 .. 99: the fewest WEATHERS that are to be HERE, so that WORKS of which all they NEED are HERE are WORTH v or more: how many; which (bits), of several the least.");
        String full = Examples.coastOf(0, 6);
        tideOf("", 0, 0);
        tideOf(full, 0, 0);
        tideOf(full, 1, 1);
        tideOf(full, 20, 1);
        tideOf(full, 21, 3);
        tideOf(full, 99, Kit.bits(0, 1, 2, 3, 6));
        tideOf("work 1;" + forAll("needs 0 ", ";"), 1, 255);
        tideOf("work 3;needs 0 7;work 3;needs 1 6;work 2;needs 2 0;", 3, 64);
        tideOf("work 3;needs 0 7;work 3;needs 1 6;work 2;needs 2 0;", 5, 65);
        tideOf("work 3;needs 0 7;work 3;needs 1 6;work 2;needs 2 0;", 6, 192);
        tideOf("work 1;needs 0 0;needs 0 1;work 1;needs 1 7;", 1, 128);
        edges.promise(37, "NONE: by none, another v, or there is none such.");
        tideOf("", 1, -1);
        tideOf("work 20;", 20, 0);
        tideOf("work 20;", 21, -1);
        tideOf(Examples.coastOf(0, 5), 99, Kit.bits(0, 1, 2, 3, 6));
        tideOf(Examples.coastOf(0, 4), 80, Kit.bits(0, 1, 3, 6));
        tideOf(Examples.coastOf(0, 4), 81, -1);
        for (boolean which : BOTH) {
            edges.only("v", Kit.coast(Kit.times(6, "work 20;")), 0, 99, -1, (x, v) -> x.tide(0, v, which));
            edges.onlyCoasts("tide", -1, (x, at) -> x.tide(at, 0, which));
            edges.onlyCoasts("tide", -1, (x, at) -> x.tide(at, 99, which));
        }
    }
}
