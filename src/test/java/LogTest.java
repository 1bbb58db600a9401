/** Promises 17 to 19 and 41: facts, which threes fit, whose godchild one is, how likely. */
final class LogTest {
    private static final Kit KIT = new Kit("LogTest");

    public static void main(String[] args) {
        facts();
        fitting();
        nothingFits();
        whose();
        shares();
        KIT.finish();
    }

    private static void facts() {
        GodWeathers x = Kit.log("heard 1;deaf 3;heard 7;");
        KIT.due("how many", x.fact(0, -1, 0), 3);
        int[][] want = {{0, 1}, {1, 3}, {0, 7}};
        for (int k = 0; k < 3; k++) {
            KIT.due("fact", x.fact(0, k, 0), want[k][0]);
            KIT.due("weather", x.fact(0, k, 1), want[k][1]);
            KIT.due("another what", x.fact(0, k, 2), -2);
            KIT.due("another what", x.fact(0, k, -1), -2);
        }
        KIT.due("no such fact", x.fact(0, 3, 0), -2);
        KIT.due("no such fact", x.fact(0, -2, 0), -2);
        KIT.due("k NONE, another what", x.fact(0, -1, 1), -2);
        KIT.due("no such log", x.fact(1, -1, 0), -2);
        KIT.due("no such log", x.fact(-1, 0, 0), -2);
    }

    private static void fitting() {
        GodWeathers x = Kit.log(Examples.LOG);
        KIT.due("how many", x.fits(0, 0), 15);
        KIT.due("sure", x.fits(0, 1), Kit.bits(1));
        KIT.due("next", x.fits(0, 2), 0);
        KIT.due("the first", x.fits(0, 10), Kit.bits(0, 1, 2));
        KIT.due("the second", x.fits(0, 11), Kit.bits(0, 1, 4));
        KIT.due("the third", x.fits(0, 12), Kit.bits(1, 2, 4));
        KIT.due("the last", x.fits(0, 24), Kit.bits(1, 6, 7));
        KIT.due("not so many", x.fits(0, 25), -2);
        KIT.due("another what", x.fits(0, 3), -2);
        KIT.due("another what", x.fits(0, 9), -2);
        KIT.due("another what", x.fits(0, -1), -2);
        KIT.due("no such log", x.fits(1, 0), -2);
        Kit.tell(x, 2, "");
        KIT.due("of nothing, how many", x.fits(1, 0), 56);
        KIT.due("of nothing, sure", x.fits(1, 1), 0);
        KIT.due("of nothing, next", x.fits(1, 2), 0);
        KIT.due("of nothing, the last", x.fits(1, 65), Kit.bits(5, 6, 7));
        KIT.due("of nothing, not so many", x.fits(1, 66), -2);
        Kit.tell(x, 2, 0, "heard 0;heard 5;deaf 1;deaf 2;deaf 3;");
        KIT.due("three are left", x.fits(0, 0), 3);
        KIT.due("next, of several the least", x.fits(0, 2), 4);
        KIT.due("sure", x.fits(0, 1), Kit.bits(0, 5));
        Kit.tell(x, 2, 0, "heard 0;heard 5;heard 3;heard 5;");
        KIT.due("one is left", x.fits(0, 0), 1);
        KIT.due("it", x.fits(0, 10), Kit.bits(0, 3, 5));
        KIT.due("sure", x.fits(0, 1), Kit.bits(0, 3, 5));
        KIT.due("next", x.fits(0, 2), 0);
    }

    private static void nothingFits() {
        String[] logs = {"heard 0;heard 1;heard 2;heard 3;", "heard 4;deaf 4;",
            "deaf 0;deaf 1;deaf 2;deaf 3;deaf 4;deaf 5;"};
        for (String log : logs) {
            GodWeathers x = Kit.log(log);
            KIT.due("how many", x.fits(0, 0), 0);
            KIT.due("sure", x.fits(0, 1), -1);
            KIT.due("next", x.fits(0, 2), -1);
            KIT.due("the first", x.fits(0, 10), -2);
            KIT.due("share", x.share(0, 0, false), -1);
            KIT.due("share", x.share(0, 0, true), -1);
        }
    }

    private static void whose() {
        GodWeathers x = Kit.coast(Examples.COAST);
        Kit.tell(x, 2, Examples.LOG);
        KIT.due("whose", x.whose(0, 0), 5);
        Kit.tell(x, 2, "");
        KIT.due("whose of nothing", x.whose(0, 1), 7);
        Kit.tell(x, 2, 1, "heard 6;");
        KIT.due("nobody's", x.whose(0, 1), 0);
        KIT.due("no such coast", x.whose(1, 0), -1);
        KIT.due("no such log", x.whose(0, 2), -1);
        KIT.due("no such log", x.whose(0, -1), -1);
    }

    private static void shares() {
        GodWeathers x = Kit.log(Examples.LOG);
        long[][] want = {{1, 3}, {1, 1}, {1, 3}, {0, 1}, {1, 3}};
        for (int w = 0; w < 5; w++) {
            KIT.due("share of " + w, x.share(0, w, false), want[w][0]);
            KIT.due("share of " + w, x.share(0, w, true), want[w][1]);
        }
        KIT.due("no such weather", x.share(0, 8, false), -1);
        KIT.due("no such weather", x.share(0, -1, true), -1);
        KIT.due("no such log", x.share(1, 0, false), -1);
    }
}
