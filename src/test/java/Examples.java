/** Texts that several tests use. */
final class Examples {
    /** Three children, two of them twins; the first work needs two that drive each other out, the third one nobody has. */
    static final String COAST = "child 0 1 2;child 1 3 4;child 0 1 2;weather 0 5;weather 3 10;patience 1 1;"
        + "patience 2 5;oppose 1 7;oppose 0 3;work 10;work 7;work 4;needs 0 0;needs 0 3;needs 1 1;needs 1 2;needs 2 7;";

    /** Its last deed can't be: that one is offended. */
    static final String YEAR = "ask 0 1;ask 1 3;come 7;ask 2 2;come 1;do 1;day;day;thank 0 1;ask 0 1;day;ask 1 1;";

    static final String LOG = "heard 1;deaf 3;";

    /** Two clans of three, each of which a boat can hold no two of. */
    static final String TWO_CLANS = "child 0 1 2;child 4 5 6;child 0 1 3;child 4 5 7;child 0 2 3;child 4 6 7;";

    private static final String[] CHILDREN = {"child 0 1 2;", "child 3 4 5;", "child 0 6 7;", "child 1 3 6;", "child 2 4 7;",
        "child 5 6 7;"};
    /** No two need the same; together they are worth 99. */
    private static final String[] WORKS = {"work 20;needs 0 0;", "work 20;needs 1 3;", "work 20;needs 2 6;",
        "work 20;needs 3 1;", "work 19;needs 4 2;", "work 0;needs 5 5;"};
    private static final String CHAIN = "oppose 0 1;oppose 1 2;oppose 2 3;oppose 3 4;oppose 4 5;oppose 5 6;oppose 6 7;";

    /** As many deeds as may be, all of which can be. */
    static final String FULL_YEAR = "ask 0 0;day;".repeat(20);
    /** As many facts as may be; 21 threes fit. */
    static final String FULL_LOG = "heard 0;".repeat(8);

    private Examples() {
    }

    /** A coast on which nothing that may be asked is refused, if it has all six children and works. */
    static String coastOf(int children, int works) {
        StringBuilder text = new StringBuilder(CHAIN);
        for (int c = 0; c < children; c++) {
            text.append(CHILDREN[c]);
        }
        for (int k = 0; k < works; k++) {
            text.append(WORKS[k]);
        }
        return text.toString();
    }

    /** A new object with so many full coasts, years and logs. */
    static GodWeathers full(int coasts, int years, int logs) {
        GodWeathers x = new GodWeathers();
        for (int n = 0; n < coasts; n++) {
            Kit.tell(x, 0, coastOf(6, 6));
        }
        for (int n = 0; n < years; n++) {
            Kit.tell(x, 1, FULL_YEAR);
        }
        for (int n = 0; n < logs; n++) {
            Kit.tell(x, 2, FULL_LOG);
        }
        return x;
    }
}
