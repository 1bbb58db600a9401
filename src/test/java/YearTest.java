/** Promises 7 to 9, 20, 38 to 40: deeds, how far they can be, states, drawn years, who takes offence when. */
final class YearTest {
    private static final Kit KIT = new Kit("YearTest");

    public static void main(String[] args) {
        deeds();
        howFar();
        whatCannotBe();
        states();
        noSuchState();
        offendedOnesAreNotForgottenFurther();
        behindAll();
        nothingBehindAll();
        firstAndKept();
        drawnYears();
        KIT.finish();
    }

    private static void deeds() {
        GodWeathers x = new GodWeathers();
        KIT.due("no year", x.deed(0, -1, 0), -2);
        Kit.tell(x, 1, "ask 5 7;thank 1 2;come 3;do 4;day;");
        KIT.due("how many", x.deed(0, -1, 0), 5);
        int[][] want = {{0, 5, 7}, {1, 1, 2}, {2, 3, -1}, {3, 4, -1}, {4, -1, -1}};
        for (int k = 0; k < 5; k++) {
            for (int what = 0; what < 3; what++) {
                KIT.due("deed " + k + " " + what, x.deed(0, k, what), want[k][what]);
            }
            KIT.due("another what", x.deed(0, k, 3), -2);
            KIT.due("another what", x.deed(0, k, -1), -2);
        }
        KIT.due("no such deed", x.deed(0, 5, 0), -2);
        KIT.due("no such deed", x.deed(0, -2, 0), -2);
        KIT.due("k NONE, another what", x.deed(0, -1, 1), -2);
        KIT.due("no such year", x.deed(1, -1, 0), -2);
        KIT.due("no such year", x.deed(-1, 0, 0), -2);
        Kit.tell(x, 1, 0, "day;");
        KIT.due("told anew", x.deed(0, -1, 0), 1);
        KIT.due("told anew", x.deed(0, 1, 0), -2);
    }

    private static void howFar() {
        GodWeathers x = Kit.coastAndYear(Examples.COAST, Examples.YEAR);
        KIT.due("till", x.till(0, 0), 11);
        Kit.tell(x, 1, "");
        KIT.due("till of nothing", x.till(0, 1), 0);
        KIT.due("no such coast", x.till(1, 0), -1);
        KIT.due("no such coast", x.till(-1, 0), -1);
        KIT.due("no such year", x.till(0, 2), -1);
        KIT.due("no such year", x.till(0, -1), -1);
        Kit.tell(x, 0, "");
        KIT.due("in another coast", x.till(1, 0), 0);
    }

    private static void till(String coast, String year, int want) {
        KIT.due("till of " + year, Kit.coastAndYear(coast, year).till(0, 0), want);
    }

    private static void whatCannotBe() {
        till(Examples.COAST, "ask 3 0;", 0);
        till(Examples.COAST, "ask 0 3;", 0);
        till(Examples.COAST, "ask 0 0;ask 0 1;", 1);
        till(Examples.COAST, "ask 0 0;day;ask 0 1;", 3);
        till(Examples.COAST, "thank 3 0;", 0);
        till(Examples.COAST, "thank 0 3;", 0);
        till(Examples.COAST, "thank 0 0;thank 0 0;thank 0 1;ask 0 1;", 4);
        till(Examples.COAST, "come 7;do 2;do 2;", 2);
        till(Examples.COAST, "do 2;", 0);
        till(Examples.COAST, "come 7;do 3;", 1);
        till(Examples.COAST, "come 7;day;do 2;", 2);
        till(Examples.COAST, "come 7;come 1;do 2;", 2);
        till(Examples.COAST, "come 1;come 7;do 2;come 2;do 1;", 4);
        till("work 3;", "do 0;", 1);
        till(Examples.COAST, "day;ask 0 1;day;ask 0 1;day;ask 0 1;", 6);
        till(Examples.COAST, "day;day;ask 0 1;", 2);
        till(Examples.COAST, "day;day;thank 0 1;ask 0 1;", 4);
    }

    private static void state(GodWeathers x, int n, int[] want) {
        for (int what = 0; what < want.length; what++) {
            KIT.due("state " + n + " what " + what, x.state(0, 0, n, what), want[what]);
        }
    }

    private static void states() {
        GodWeathers x = Kit.coastAndYear(Examples.COAST, Examples.YEAR);
        state(x, 0, new int[] {0, 0, 0, 0, 0, 0});
        state(x, 1, new int[] {0, Kit.bits(1), 0, 0, 0, 1});
        state(x, 2, new int[] {0, Kit.bits(1, 3), 0, 0, 0, 3});
        state(x, 3, new int[] {0, Kit.bits(3, 7), 0, 0, 0, 3});
        state(x, 4, new int[] {0, Kit.bits(2, 3, 7), 0, 0, 0, 7});
        state(x, 5, new int[] {0, Kit.bits(1, 2, 3), 0, 0, 0, 7});
        state(x, 6, new int[] {0, Kit.bits(1, 2, 3), 2, 7, 0, 7});
        state(x, 7, new int[] {1, 0, 2, 7, 0, 0});
        state(x, 8, new int[] {2, 0, 2, 7, 3, 0});
        state(x, 9, new int[] {2, 0, 2, 7, 3, 0});
        state(x, 10, new int[] {2, Kit.bits(1), 2, 7, 3, 1});
        state(x, 11, new int[] {3, 0, 2, 7, 3, 0});
        KIT.due("offended with 0", x.state(0, 0, 7, 10), 0);
        KIT.due("offended with 0", x.state(0, 0, 8, 10), Kit.bits(1));
        KIT.due("offended with 1", x.state(0, 0, 8, 11), Kit.bits(1));
        KIT.due("offended with 2", x.state(0, 0, 8, 12), Kit.bits(1));
        KIT.due("thanked by 0", x.state(0, 0, 9, 10), 0);
        KIT.due("not by 1", x.state(0, 0, 9, 11), Kit.bits(1));
        KIT.due("forgotten", x.state(0, 0, 11, 100), 3);
        KIT.due("thanked and asked", x.state(0, 0, 11, 101), 1);
        KIT.due("forgotten", x.state(0, 0, 11, 102), 3);
        KIT.due("offended", x.state(0, 0, 11, 109), 2);
        KIT.due("asked on the first day", x.state(0, 0, 11, 111), 3);
    }

    private static void noSuchState() {
        GodWeathers x = Kit.coastAndYear(Examples.COAST, Examples.YEAR);
        KIT.due("behind END", x.state(0, 0, 12, 0), -1);
        KIT.due("behind all", x.state(0, 0, 13, 0), -1);
        KIT.due("before all", x.state(0, 0, -1, 0), -1);
        KIT.due("no such coast", x.state(1, 0, 0, 0), -1);
        KIT.due("no such year", x.state(0, 1, 0, 0), -1);
        int[] others = {-1, 6, 9, 13, 15, 16, 99, 103, 108, 110, 115, 124, 147, 148, 2147483647, -2147483648};
        for (int what : others) {
            KIT.due("state what " + what, x.state(0, 0, 0, what), -1);
        }
        KIT.due("a godparent of the last child", x.state(0, 0, 0, 118), 0);
    }

    private static void offendedOnesAreNotForgottenFurther() {
        GodWeathers x = Kit.coastAndYear("child 0 1 2;patience 0 1;patience 2 9;",
            Kit.times(6, "day;") + "thank 0 0;day;day;");
        int[] forgotten0 = {0, 1, 2, 2, 2, 2, 2, 0, 1, 2};
        int[] forgotten1 = {0, 1, 2, 3, 4, 4, 4, 4, 4, 4};
        int[] barns = {0, 0, 1, 1, 2, 2, 2, 2, 2, 3};
        int[] offended = {0, 0, 1, 1, 3, 3, 3, 2, 2, 3};
        for (int n = 0; n < 10; n++) {
            KIT.due("forgotten 0", x.state(0, 0, n, 100), forgotten0[n]);
            KIT.due("forgotten 1", x.state(0, 0, n, 101), forgotten1[n]);
            KIT.due("barns", x.state(0, 0, n, 4), barns[n]);
            KIT.due("offended", x.state(0, 0, n, 10), offended[n]);
        }
    }

    private static void behindAll() {
        GodWeathers x = Kit.coastAndYear(Examples.COAST, Examples.YEAR);
        int[] want = {7, 1, 3, 0, 1, 5};
        for (int what = 0; what < 6; what++) {
            KIT.due("after " + what, x.after(0, 0, what), want[what]);
        }
        KIT.due("after 6", x.after(0, 0, 6), -2);
        KIT.due("after -1", x.after(0, 0, -1), -2);
        KIT.due("no such coast", x.after(1, 0, 0), -2);
        KIT.due("no such year", x.after(0, 1, 0), -2);
        Kit.tell(x, 1, 0, "ask 1 1;thank 2 2;day;ask 2 1;come 7;day;ask 2 0;day;come 5;come 6;ask 2 2;do 0;ask 0 0;");
        int[] second = {5, 1, 3, 2, 1, 7};
        for (int what = 0; what < 6; what++) {
            KIT.due("after " + what, x.after(0, 0, what), second[what]);
        }
    }

    private static void nothingBehindAll() {
        GodWeathers x = Kit.coastAndYear("work 1;work 2;", "do 1;come 1;day;day;day;day;day;");
        int[] want = {-1, -1, 1, -1, 0, 1};
        for (int what = 0; what < 6; what++) {
            KIT.due("after " + what, x.after(0, 0, what), want[what]);
        }
        x = Kit.coastAndYear("child 0 1 2;child 5 6 7;patience 7 1;patience 6 1;", "day;day;");
        KIT.due("nobody asked", x.after(0, 0, 3), -1);
        KIT.due("the first by numbers", x.after(0, 0, 1), 16);
        KIT.due("by the second deed", x.after(0, 0, 0), 1);
        x = Kit.coastAndYear("child 0 1 2;child 5 6 7;", "ask 1 5;ask 0 0;");
        KIT.due("both asked once", x.after(0, 0, 3), 0);
        KIT.due("two were here", x.after(0, 0, 2), 2);
        Kit.tell(x, 1, "thank 0 1;");
        int[] quiet = {-1, -1, 0, -1, 1, 0};
        for (int what = 0; what < 6; what++) {
            KIT.due("a quiet year, after " + what, x.after(0, 1, what), quiet[what]);
        }
    }

    private static void firstAndKept() {
        GodWeathers x = Kit.coast(Examples.COAST + "child 5 6 7;patience 7 2;patience 5 2;");
        KIT.due("first 0", x.first(0, 0, false), 2);
        KIT.due("who", x.first(0, 0, true), 1);
        KIT.due("first 3", x.first(0, 3, false), 3);
        KIT.due("who", x.first(0, 3, true), 5);
        int[][] kept = {{1, 0}, {2, 1}, {3, 2}, {4, 4}, {5, 5}, {6, 7}, {99, 149}};
        for (int[] row : kept) {
            KIT.due("kept in " + row[0], x.kept(0, 0, row[0]), row[1]);
        }
        KIT.due("kept in 0", x.kept(0, 0, 0), -1);
        KIT.due("kept in 100", x.kept(0, 0, 100), -1);
        KIT.due("kept, no such child", x.kept(0, 4, 1), -1);
        KIT.due("kept, no such child", x.kept(0, -1, 1), -1);
        KIT.due("kept, no such coast", x.kept(1, 0, 1), -1);
        KIT.due("first, no such child", x.first(0, 4, false), -1);
        KIT.due("first, no such child", x.first(0, -1, true), -1);
        KIT.due("first, no such coast", x.first(1, 0, true), -1);
    }

    /** The draws by hand: 12345 >>> 16 is 0, so the first lot of seed 0 is an ask, by child 5 % 1, and so on. */
    private static void drawnYears() {
        GodWeathers x = Kit.coast("child 0 1 2;");
        KIT.due("before all", x.drawn(0, 0, 0, 1), 0);
        int seed = 12345;
        KIT.due("the first lot asks", (seed >>> 16) % 8, 0);
        seed = seed * 1103515245 + 12345;
        seed = seed * 1103515245 + 12345;
        KIT.due("whom seed 0 asks", x.drawn(0, 0, 1, 1), 1 << (seed >>> 16) % 3);
        KIT.due("who asks", x.drawn(0, 0, 1, 5), 1);
        KIT.due("n -1", x.drawn(0, 0, -1, 0), -1);
        KIT.due("n 61", x.drawn(0, 0, 61, 0), -1);
        KIT.due("n 60", x.drawn(0, 0, 60, 0) > 0 ? 1 : 0, 1);
        KIT.due("another what", x.drawn(0, 0, 1, 6), -1);
        KIT.due("no godparent", x.drawn(0, 0, 1, 103), -1);
        KIT.due("no such coast", x.drawn(1, 0, 1, 0), -1);
        Kit.tell(x, 0, 0, "");
        KIT.due("nothing is done", x.drawn(0, 0, 1, 1), 0);
        KIT.due("nobody asks", x.drawn(0, 0, 1, 5), 0);
    }
}
