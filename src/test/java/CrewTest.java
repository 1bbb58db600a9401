/** Promises 13, 14, 21 to 24 and 36: children among themselves, boats, clans. */
final class CrewTest {
    private static final Kit KIT = new Kit("CrewTest");

    public static void main(String[] args) {
        villages();
        boats();
        seats();
        kin();
        clans();
        lone();
        near();
        KIT.finish();
    }

    private static void villages() {
        GodWeathers x = Kit.coast(Examples.COAST);
        KIT.due("village", x.village(0, false), 2);
        KIT.due("who", x.village(0, true), 3);
        KIT.due("no children", Kit.coast("").village(0, false), 0);
        KIT.due("no children", Kit.coast("").village(0, true), 0);
        x = Kit.coast("child 0 1 2;child 2 3 4;child 0 1 2;child 3 4 5;child 2 3 5;");
        KIT.due("two do", x.village(0, false), 2);
        KIT.due("of several the least", x.village(0, true), Kit.bits(0, 3));
        KIT.due("no such coast", x.village(1, false), -1);
        KIT.due("no such coast", x.village(-1, true), -1);
    }

    private static void boats() {
        GodWeathers x = Kit.coast(Examples.TWO_CLANS);
        int[] want = {-1, 6, 3, 3, 3, 3, 3, -1};
        for (int n = 0; n < 8; n++) {
            KIT.due("boats of " + n, x.boats(0, n), want[n]);
        }
        KIT.due("no children", Kit.coast("").boats(0, 1), 0);
        KIT.due("all share", Kit.coast(Examples.COAST).boats(0, 6), 3);
        KIT.due("no such coast", x.boats(1, 1), -1);
    }

    private static void seats() {
        GodWeathers x = Kit.coast(Examples.TWO_CLANS);
        int[][] want = {{0, 1, 2, 3, 4, 5}, {0, 0, 1, 1, 2, 2}, {0, 0, 1, 1, 2, 2}};
        for (int n = 1; n <= 3; n++) {
            for (int child = 0; child < 6; child++) {
                KIT.due("seat of " + child + " by " + n, x.seat(0, n, child), want[n - 1][child]);
            }
        }
        KIT.due("another n", x.seat(0, 0, 0), -1);
        KIT.due("another n", x.seat(0, 7, 0), -1);
        KIT.due("no such child", x.seat(0, 1, 6), -1);
        KIT.due("no such child", x.seat(0, 1, -1), -1);
        KIT.due("no such coast", x.seat(1, 1, 0), -1);
        // The first two could share a boat, but then there would be three.
        x = Kit.coast("child 0 1 2;child 3 4 5;child 0 3 6;child 1 4 7;child 2 5 6;");
        KIT.due("boats", x.boats(0, 6), 3);
        x = Kit.coast("child 0 1 2;child 3 4 5;child 3 6 7;child 0 6 7;");
        KIT.due("boats", x.boats(0, 2), 2);
        int[] row = {0, 1, 0, 1};
        for (int child = 0; child < 4; child++) {
            KIT.due("seat", x.seat(0, 2, child), row[child]);
        }
    }

    private static void kin() {
        GodWeathers x = Kit.coast(Examples.COAST + "child 5 6 7;");
        int[][] want = {{3, 1, 3, 0}, {1, 3, 1, 0}, {3, 1, 3, 0}, {0, 0, 0, 3}};
        for (int a = 0; a < 4; a++) {
            for (int b = 0; b < 4; b++) {
                KIT.due("kin " + a + " " + b, x.kin(0, a, b), want[a][b]);
            }
        }
        KIT.due("no such child", x.kin(0, 4, 0), -1);
        KIT.due("no such child", x.kin(0, 0, 4), -1);
        KIT.due("no such child", x.kin(0, -1, 0), -1);
        KIT.due("no such coast", x.kin(1, 0, 0), -1);
    }

    private static void clan(String coast, int... want) {
        GodWeathers x = Kit.coast(coast);
        for (int what = 0; what < 8; what++) {
            KIT.due("clan " + what + " of " + coast, x.clan(0, what), want[what]);
        }
        for (int child = 0; child < 6; child++) {
            int due = 8 + child < want.length ? want[8 + child] : -2;
            KIT.due("clan of child " + child + " of " + coast, x.clan(0, 10 + child), due);
        }
    }

    private static void clans() {
        clan("", 0, 0, 0, 0, 0, 0, 8, 255);
        clan(Examples.COAST, 1, 1, 1, 1, 0, 2, 6, Kit.bits(0, 1, 2, 4, 5, 6), 7, 7, 7);
        clan(Examples.TWO_CLANS, 2, 0, 2, 3, 3, 0, 8, 255, 21, 42, 21, 42, 21, 42);
        // A chain: the ends are kin by the one between.
        clan("child 0 1 2;child 4 5 6;child 2 3 4;oppose 0 1;oppose 1 2;oppose 2 0;",
            1, 0, 2, 3, 1, 3, 6, Kit.bits(0, 3, 4, 5, 6, 7), 7, 7, 7);
        clan("child 0 1 2;child 2 1 0;child 1 0 2;", 1, 3, 1, 1, 0, 0, 8, 255, 7, 7, 7);
        GodWeathers x = Kit.coast(Examples.COAST);
        int[] others = {-1, 8, 9, 13, 16, -2147483648, 2147483647};
        for (int what : others) {
            KIT.due("clan " + what, x.clan(0, what), -2);
        }
        KIT.due("no such coast", x.clan(1, 0), -2);
    }

    private static void lone() {
        GodWeathers x = Kit.coast("child 0 1 2;child 3 4 5;child 5 6 7;work 3;work 9;work 9;");
        KIT.due("lone", x.lone(0, false), 1);
        KIT.due("dearest", x.lone(0, true), 1);
        KIT.due("nobody", Kit.coast("").lone(0, false), 0);
        KIT.due("no works", Kit.coast("").lone(0, true), -1);
        KIT.due("one child", Kit.coast("child 5 6 7;").lone(0, false), 1);
        KIT.due("worth nothing", Kit.coast("work 0;").lone(0, true), 0);
        KIT.due("no such coast", x.lone(1, false), -2);
        KIT.due("no such coast", x.lone(1, true), -2);
    }

    private static void near() {
        GodWeathers x = Kit.coast(Examples.COAST);
        KIT.due("near 1 3", x.near(0, Kit.bits(1, 3)), 2);
        KIT.due("near 0 1", x.near(0, Kit.bits(0, 1)), 5);
        KIT.due("near all", x.near(0, 255), 7);
        KIT.due("near none", x.near(0, 0), 0);
        KIT.due("near one", x.near(0, Kit.bits(1)), 0);
        KIT.due("others", x.near(0, 256), -1);
        KIT.due("others", x.near(0, -1), -1);
        KIT.due("no such coast", x.near(1, 0), -1);
    }
}
