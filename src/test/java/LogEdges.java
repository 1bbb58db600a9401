/** The edges of FIT, SURE, NEXT, WHOSE and SHARE; promises 17 to 19 and 41. */
final class LogEdges {
    private static final boolean[] BOTH = {false, true};

    private final Edges edges;

    private LogEdges(Edges edges) {
        this.edges = edges;
    }

    static void ask(Edges edges) {
        LogEdges e = new LogEdges(edges);
        e.facts();
        e.fit();
        e.next();
        e.nothingFits();
        e.fitsNoneSuch();
        e.whose();
        e.share();
    }

    private void facts() {
        edges.promise(17, "How many FACTS (k NONE, what 0)");
        GodWeathers x = Kit.log(Examples.FULL_LOG);
        edges.due("eight", x.fact(0, -1, 0), 8);
        edges.only("what", x, 0, 0, -2, (y, what) -> y.fact(0, -1, what));
        edges.due("none", Kit.log("").fact(0, -1, 0), 0);
        edges.promise(17, "-2: there is none such (of either), or for another what.");
        edges.onlyLogs("how many", -2, (y, at) -> y.fact(at, -1, 0));
        edges.onlyLogs("fact", -2, (y, at) -> y.fact(at, 0, 0));
        edges.only("weather of a fact", x, 0, 7, -2, (y, k) -> y.fact(0, k, 1));
        edges.only("fact", x, -1, 7, -2, (y, k) -> y.fact(0, k, 0));
        edges.only("fact of one", Kit.log("deaf 7;"), 0, 0, -2, (y, k) -> y.fact(0, k, 1));
        edges.only("fact of none", Kit.log(""), 0, -1, -2, (y, k) -> y.fact(0, k, 1));
        for (int k = 0; k < 8; k++) {
            int one = k;
            edges.only("what", x, 0, 1, -2, (y, what) -> y.fact(0, one, what));
        }
    }

    private void fitOf(String log, int many, int sure) {
        GodWeathers x = Kit.log(log);
        edges.due("fits of " + log, x.fits(0, 0), many);
        edges.due("sure of " + log, x.fits(0, 1), sure);
    }

    private void fit() {
        edges.terms(4, "three unlike WEATHERS (bits) FIT, if each that HEARD is one of them, each that was DEAF is none: how many; the k-th, by numbers; SURE: those in all (bits)");
        fitOf("", 56, 0);
        fitOf("heard 0;", 21, 1);
        fitOf("heard 0;heard 0;", 21, 1);
        fitOf("deaf 7;", 35, 0);
        fitOf("heard 0;heard 7;", 6, 129);
        fitOf("heard 0;heard 7;heard 3;", 1, 137);
        fitOf("heard 0;heard 7;heard 3;deaf 1;deaf 2;deaf 4;deaf 5;deaf 6;", 1, 137);
        fitOf("deaf 0;deaf 1;deaf 2;deaf 3;", 4, 0);
        fitOf("deaf 0;deaf 1;deaf 2;deaf 3;deaf 4;", 1, 224);
        GodWeathers x = Kit.log("deaf 0;deaf 1;deaf 2;deaf 3;");
        int[] row = {112, 176, 208, 224, -2};
        for (int k = 0; k < 5; k++) {
            edges.due("the " + k + "-th", x.fits(0, 10 + k), row[k]);
        }
    }

    private void next() {
        edges.terms(4, "NEXT: the WEATHER by which, of those that FIT, the greater number that have it or not is least, of several the least.");
        String[] logs = {"", "heard 0;", "heard 0;heard 1;", "heard 0;heard 1;heard 2;", "deaf 0;deaf 1;deaf 2;deaf 3;", "deaf 0;",
            "heard 7;heard 6;deaf 0;deaf 1;deaf 2;deaf 3;", "heard 5;heard 6;heard 7;"};
        int[] want = {0, 1, 2, 0, 4, 1, 4, 0};
        for (int i = 0; i < want.length; i++) {
            edges.due("next of " + logs[i], Kit.log(logs[i]).fits(0, 2), want[i]);
        }
    }

    private void nothingFits() {
        edges.promise(18, "1: SURE (bits; NONE: nothing FITS), 2: NEXT (NONE: nothing FITS)");
        String[] none = {"heard 0;heard 1;heard 2;heard 3;", "heard 7;deaf 7;", "deaf 7;heard 7;",
            "deaf 0;deaf 1;deaf 2;deaf 3;deaf 4;deaf 5;"};
        for (String log : none) {
            GodWeathers x = Kit.log(log);
            edges.due("how many of " + log, x.fits(0, 0), 0);
            edges.due("sure of " + log, x.fits(0, 1), -1);
            edges.due("next of " + log, x.fits(0, 2), -1);
            edges.due("the first of " + log, x.fits(0, 10), -2);
        }
        String[] one = {"heard 0;heard 1;heard 2;", "heard 7;", "deaf 0;deaf 1;deaf 2;deaf 3;deaf 4;"};
        for (String log : one) {
            GodWeathers x = Kit.log(log);
            edges.due("how many of " + log, x.fits(0, 0) > 0, true);
            edges.due("sure of " + log, x.fits(0, 1) > 0, true);
            edges.due("next of " + log, x.fits(0, 2) >= 0, true);
        }
    }

    private void fitsNoneSuch() {
        edges.promise(18, "10 + k: the k-th.");
        GodWeathers x = Kit.log("");
        edges.due("the first", x.fits(0, 10), 7);
        edges.due("the second", x.fits(0, 11), 11);
        edges.due("the last", x.fits(0, 65), 224);
        edges.promise(18, "-2: there is none such (of either), or for another what.");
        int[] whats = {0, 1, 2, 10};
        for (int what : whats) {
            edges.onlyLogs("fits", -2, (y, at) -> y.fits(at, what));
        }
        edges.only("what", x, 0, 2, -2, (y, what) -> y.fits(0, what));
        edges.only("the k-th of 56", x, 10, 65, -2, (y, what) -> y.fits(0, what));
        edges.only("the k-th of one", Kit.log("heard 0;heard 1;heard 2;"), 10, 10, -2, (y, what) -> y.fits(0, what));
        edges.only("the k-th of none", Kit.log("heard 0;deaf 0;"), 10, 9, -2, (y, what) -> y.fits(0, what));
    }

    private void whose() {
        edges.terms(4, "WHOSE, in a COAST: CHILDREN (bits) whose GODPARENTS FIT.");
        String[] coasts = {"", "child 0 1 2;", Kit.times(5, "child 0 1 2;") + "child 5 6 7;"};
        String[] logs = {"", "heard 7;", "deaf 7;", "heard 0;deaf 0;", "heard 0;heard 1;heard 2;"};
        int[][] want = {{0, 0, 0, 0, 0}, {1, 0, 1, 0, 1}, {63, 32, 31, 0, 31}};
        for (int c = 0; c < 3; c++) {
            for (int l = 0; l < 5; l++) {
                GodWeathers x = Kit.coast(coasts[c]);
                Kit.tell(x, 2, logs[l]);
                edges.due("whose by " + logs[l] + " on " + coasts[c], x.whose(0, 0), want[c][l]);
            }
        }
        edges.promise(19, "NONE: there is none such (of either).");
        edges.onlyCoasts("whose", -1, (x, at) -> x.whose(at, 0));
        edges.onlyLogs("whose", -1, (x, at) -> x.whose(0, at));
        edges.due("neither", new GodWeathers().whose(0, 0), -1);
    }

    private void share() {
        edges.terms(6, "By a LOG: SHARE of a WEATHER: all that FIT being alike, how likely it is one of them, a fraction in least terms.");
        long[][] want = {{0, 3, 8}, {7, 3, 8}};
        for (long[] row : want) {
            edges.due("share", Kit.log("").share(0, (int) row[0], false), row[1]);
            edges.due("share under", Kit.log("").share(0, (int) row[0], true), row[2]);
        }
        edges.due("sure", Kit.log("heard 7;").share(0, 7, false), 1);
        edges.due("sure, under", Kit.log("heard 7;").share(0, 7, true), 1);
        edges.due("never", Kit.log("deaf 7;").share(0, 7, false), 0);
        edges.due("never, under", Kit.log("deaf 7;").share(0, 7, true), 1);
        edges.promise(41, "NONE: nothing FITS, no such WEATHER, or there is none such.");
        String[] none = {"heard 0;heard 1;heard 2;heard 3;", "heard 7;deaf 7;", "deaf 0;deaf 1;deaf 2;deaf 3;deaf 4;deaf 5;"};
        for (boolean under : BOTH) {
            for (String log : none) {
                for (int w = 0; w < 8; w++) {
                    edges.due("nothing fits " + log, Kit.log(log).share(0, w, under), -1);
                }
            }
            edges.only("weather", Kit.log(""), 0, 7, -1, (x, w) -> x.share(0, w, under));
            edges.onlyLogs("share", -1, (x, at) -> x.share(at, 0, under));
        }
    }
}
