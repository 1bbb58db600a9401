/** Promises 10, 11, 15, 16, 28 to 31 and 35: who asks whom, and what that is good for. */
final class AskingTest {
    private static final Kit KIT = new Kit("AskingTest");

    public static void main(String[] args) {
        calls();
        feasts();
        feastsByTies();
        headlands();
        waiting();
        busyDays();
        lots();
        heirs();
        plans();
        pairs();
        KIT.finish();
    }

    private static void calls() {
        GodWeathers x = Kit.coast(Examples.COAST);
        int[][] want = {{2, 0, 1, -1}, {2, 0, 2, -1}, {-1, -1, -1, -1}};
        for (int work = 0; work < 3; work++) {
            for (int k = -1; k < 3; k++) {
                KIT.due("call " + work + " " + k, x.call(0, work, k), want[work][k + 1]);
            }
        }
        KIT.due("k -2", x.call(0, 0, -2), -1);
        KIT.due("no such work", x.call(0, 3, -1), -1);
        KIT.due("no such work", x.call(0, -1, -1), -1);
        KIT.due("no such coast", x.call(1, 0, -1), -1);
        x = Kit.coast("child 0 1 2;child 0 3 4;work 1;needs 0 0;needs 0 1;work 1;work 2;needs 2 1;needs 2 2;");
        KIT.due("the first must leave it to the second", x.call(0, 0, 0), 1);
        KIT.due("and asks the other", x.call(0, 0, 1), 0);
        KIT.due("needs none", x.call(0, 1, -1), 0);
        KIT.due("needs none", x.call(0, 1, 0), -1);
        KIT.due("one would ask twice", x.call(0, 2, -1), -1);
        x = Kit.coast("child 0 1 2;child 3 4 5;child 6 7 0;work 5;needs 0 0;needs 0 3;needs 0 7;");
        KIT.due("who asks 0", x.call(0, 0, 0), 0);
        KIT.due("who asks 3", x.call(0, 0, 1), 1);
        KIT.due("who asks 7", x.call(0, 0, 2), 2);
    }

    private static void feasts() {
        GodWeathers x = Kit.coast(Examples.COAST);
        int[] want = {7, 0, 1, 2, -1};
        for (int k = -1; k < 4; k++) {
            KIT.due("feast " + k, x.feast(0, k), want[k + 1]);
        }
        KIT.due("feast -2", x.feast(0, -2), -1);
        KIT.due("no such coast", x.feast(1, -1), -1);
        KIT.due("no such coast", x.feast(-1, 0), -1);
        x = Kit.coast("work 3;work 9;needs 1 0;");
        KIT.due("without children", x.feast(0, -1), 3);
        KIT.due("without children", x.feast(0, 0), -1);
        KIT.due("of nothing", Kit.coast("").feast(0, -1), 0);
    }

    private static void feastsByTies() {
        // The second's godparents all drive out what the first brings: it asks nobody.
        GodWeathers x = Kit.coast("child 0 6 7;child 1 2 3;oppose 0 1;oppose 0 2;oppose 0 3;work 5;needs 0 0;");
        KIT.due("much", x.feast(0, -1), 5);
        KIT.due("first", x.feast(0, 0), 0);
        KIT.due("second", x.feast(0, 1), 8);
        // The other way round the first may ask whom it likes: what it brings is driven out.
        x = Kit.coast("child 1 2 3;child 0 6 7;oppose 0 1;oppose 0 2;oppose 0 3;work 5;needs 0 0;");
        KIT.due("first", x.feast(0, 0), 1);
        KIT.due("second", x.feast(0, 1), 0);
        // Nothing is worth anything: the first row is the one of least numbers.
        x = Kit.coast("child 7 2 5;child 0 6 7;");
        KIT.due("first", x.feast(0, 0), 2);
        KIT.due("second", x.feast(0, 1), 0);
    }

    private static void headlands() {
        GodWeathers x = Kit.coast(Examples.COAST);
        int[][] want = {{0, -1}, {0, 0}, {0, 0}, {7, 2}};
        for (int n = 0; n < 4; n++) {
            KIT.due("headland " + n, x.headland(0, n, false), want[n][0]);
            KIT.due("headland first " + n, x.headland(0, n, true), want[n][1]);
        }
        KIT.due("another n", x.headland(0, 4, false), -2);
        KIT.due("another n", x.headland(0, -1, true), -2);
        KIT.due("no such coast", x.headland(1, 1, false), -2);
        KIT.due("no such coast, n 0", x.headland(1, 0, true), -2);
        x = Kit.coast("work 4;");
        KIT.due("nobody can ask", x.headland(0, 2, false), 4);
        KIT.due("nobody can ask", x.headland(0, 2, true), 99);
        // Asking last, the second drives out what the first has asked for, if it has a child to ask.
        x = Kit.coast("child 0 1 2;child 3 4 5;oppose 0 3;work 5;needs 0 0;");
        KIT.due("one turn", x.headland(0, 1, false), 5);
        KIT.due("one turn", x.headland(0, 1, true), 0);
        KIT.due("two turns", x.headland(0, 2, false), 0);
        // In three it takes away the child that could still ask.
        KIT.due("three turns", x.headland(0, 3, false), 0);
        KIT.due("three turns", x.headland(0, 3, true), 0);
        // Two can ask: the one left over asks once more what was driven out.
        x = Kit.coast("child 5 6 7;child 0 1 2;child 3 4 5;child 0 6 7;oppose 0 3;work 5;needs 0 0;");
        KIT.due("three turns", x.headland(0, 3, false), 5);
        KIT.due("three turns", x.headland(0, 3, true), 5);
        x = Kit.coast("child 5 6 7;child 0 1 2;child 3 4 5;oppose 0 3;work 5;needs 0 0;");
        KIT.due("one can ask", x.headland(0, 3, false), 0);
    }

    private static void waits(int p, int c, int n, long over, long under, int asks) {
        GodWeathers x = new GodWeathers();
        String call = "waits " + p + " " + c + " " + n;
        KIT.due(call, x.waits(p, c, n, 0), over);
        KIT.due(call + " under", x.waits(p, c, n, 1), under);
        KIT.due(call + " asks", x.waits(p, c, n, 2), asks);
    }

    private static void waiting() {
        waits(5, 10, 1, 5, 1, 1);
        waits(5, 10, 2, 3, 1, 0);
        waits(5, 10, 3, 2, 1, 0);
        waits(5, 2, 2, 1, 1, 1);
        waits(0, 1, 9, 1, 1, 1);
        waits(0, 20, 9, 20, 1, 1);
        waits(10, 20, 1, 0, 1, 1);
        waits(10, 20, 2, 0, 1, 0);
        waits(10, 1, 2, 0, 1, 1);
        waits(3, 7, 1, 49, 10, 1);
        waits(3, 7, 2, 413, 100, 0);
        waits(1, 0, 5, 0, 1, 1);
        // Three days ask for 0.9 (1 + 0.9 (1 + 0.9 * 20)).
        waits(1, 20, 3, 1629, 100, 0);
        int[][] others = {{-1, 0, 1, 0}, {11, 0, 1, 0}, {0, -1, 1, 0}, {0, 21, 1, 0}, {0, 0, 0, 0}, {0, 0, 10, 0},
            {0, 0, 1, 3}, {0, 0, 1, -1}};
        for (int[] o : others) {
            KIT.due("others", new GodWeathers().waits(o[0], o[1], o[2], o[3]), -1);
        }
    }

    private static void busyDays() {
        GodWeathers x = Kit.coast("child 0 1 2;child 3 4 5;work 20;needs 0 0;needs 0 3;"
            + "work 1;needs 1 1;work 1;needs 2 1;needs 2 4;work 0;");
        KIT.due("feast", x.feast(0, -1), 20);
        KIT.due("feast 0", x.feast(0, 0), 0);
        KIT.due("busy", x.busy(0, -1), 3);
        KIT.due("busy 0", x.busy(0, 0), 1);
        KIT.due("busy 1", x.busy(0, 1), 4);
        KIT.due("busy 2", x.busy(0, 2), -1);
        KIT.due("busy -2", x.busy(0, -2), -1);
        KIT.due("no such coast", x.busy(1, -1), -1);
        KIT.due("of nothing", Kit.coast("").busy(0, -1), 0);
    }

    private static void lots() {
        GodWeathers x = Kit.coast(Examples.COAST + "work 1;");
        long[][] want = {{0, 1}, {1, 3}, {0, 1}, {1, 1}};
        for (int work = 0; work < 4; work++) {
            KIT.due("lots " + work, x.lots(0, work, false), want[work][0]);
            KIT.due("lots under " + work, x.lots(0, work, true), want[work][1]);
        }
        KIT.due("no such work", x.lots(0, 4, false), -1);
        KIT.due("no such coast", x.lots(1, 0, false), -1);
        x = Kit.coast("child 0 1 2;child 3 4 5;oppose 0 3;work 1;needs 0 0;");
        KIT.due("one in three, less what is driven out", x.lots(0, 0, false), 2);
        KIT.due("of nine", x.lots(0, 0, true), 9);
        x = Kit.coast("work 1;work 2;needs 1 0;");
        KIT.due("without children", x.lots(0, 0, false), 1);
        KIT.due("without children", x.lots(0, 1, false), 0);
        KIT.due("without children", x.lots(0, 1, true), 1);
    }

    private static void heirs() {
        GodWeathers x = Kit.coast(Examples.COAST);
        KIT.due("heir", x.heir(0, false), 0);
        KIT.due("much", x.heir(0, true), 7);
        x = Kit.coast("child 0 1 2;child 3 4 5;child 0 6 7;work 5;needs 0 0;work 3;needs 1 5;work 1;");
        KIT.due("the one that nobody can stand in for", x.heir(0, false), 1);
        KIT.due("much", x.heir(0, true), 6);
        KIT.due("no children", Kit.coast("work 1;").heir(0, false), -1);
        KIT.due("no children", Kit.coast("work 1;").heir(0, true), -1);
        KIT.due("no such coast", x.heir(1, false), -1);
    }

    private static void plans() {
        GodWeathers x = Kit.coast(Examples.COAST);
        KIT.due("days", x.plan(0, false), 1);
        KIT.due("never", x.plan(0, true), 5);
        KIT.due("no works", Kit.coast("").plan(0, false), 0);
        KIT.due("no works", Kit.coast("").plan(0, true), 0);
        KIT.due("needs nothing", Kit.coast("work 1;").plan(0, false), 1);
        KIT.due("never", Kit.coast("work 1;needs 0 0;").plan(0, false), 0);
        KIT.due("never", Kit.coast("work 1;needs 0 0;").plan(0, true), 1);
        x = Kit.coast("child 0 1 2;work 1;needs 0 0;work 1;needs 1 1;work 0;needs 2 2;work 1;needs 3 0;needs 3 1;");
        KIT.due("one a day", x.plan(0, false), 3);
        KIT.due("two at once never", x.plan(0, true), 8);
        x = Kit.coast("child 0 1 2;child 0 1 2;work 1;needs 0 0;work 1;needs 1 1;work 0;needs 2 2;work 1;needs 3 0;needs 3 1;");
        KIT.due("two a day", x.plan(0, false), 2);
        KIT.due("none never", x.plan(0, true), 0);
        KIT.due("no such coast", x.plan(1, false), -1);
        KIT.due("no such coast", x.plan(1, true), -1);
    }

    private static void pairs() {
        GodWeathers x = Kit.coast(Examples.COAST);
        KIT.due("pair", x.pair(0, false), 1);
        KIT.due("much", x.pair(0, true), 7);
        x = Kit.coast("child 0 1 2;child 3 4 5;child 5 6 7;work 5;needs 0 5;needs 0 7;work 9;needs 1 0;needs 1 1;work 1;");
        KIT.due("pair", x.pair(0, false), 12);
        KIT.due("much", x.pair(0, true), 6);
        KIT.due("one child", Kit.coast("child 0 1 2;work 1;").pair(0, false), -1);
        KIT.due("one child", Kit.coast("child 0 1 2;work 1;").pair(0, true), -1);
        KIT.due("no such coast", x.pair(1, true), -1);
    }
}
