/** Texts that several tests use. */
final class Examples {
    /** Three children, two of them twins; the first work needs two that drive each other out, the third one nobody has. */
    static final String COAST = "child 0 1 2;child 1 3 4;child 0 1 2;weather 0 5;weather 3 10;patience 1 1;"
        + "patience 2 5;oppose 1 7;oppose 0 3;work 10;work 7;work 4;needs 0 0;needs 0 3;needs 1 1;needs 1 2;needs 2 7;";

    /** Its last deed can't be: that one is offended. */
    static final String YEAR = "ask 0 1;ask 1 3;come 7;ask 2 2;come 1;do 1;day;day;thank 0 1;ask 0 1;day;ask 1 1;";

    static final String LOG = "heard 1;deaf 3;";

    /** Two clans of three, each of which a boat can hold no two of. */
    static final String TWO_CLANS = "child 0 1 2;child 4 5 6;child 0 1 3;child 4 5 7;child 0 2 3;child 4 6 7;";

    private Examples() {
    }
}
