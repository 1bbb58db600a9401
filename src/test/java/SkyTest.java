/** Promises 12, 25 to 27, 32 to 34 and 37: weathers by chance, by opposition, and the works that need them. */
final class SkyTest {
    private static final Kit KIT = new Kit("SkyTest");

    public static void main(String[] args) {
        odds();
        ladders();
        storms();
        lacks();
        levies();
        ready();
        hopes();
        tides();
        KIT.finish();
    }

    private static void odds(GodWeathers x, int work, int asked, long over, long under) {
        KIT.due("odds " + work + " " + asked, x.odds(0, work, asked, false), over);
        KIT.due("odds under " + work + " " + asked, x.odds(0, work, asked, true), under);
    }

    private static void odds() {
        GodWeathers x = Kit.coast(Examples.COAST + "work 1;weather 4 0;work 2;needs 4 4;needs 4 1;");
        odds(x, 0, 0, 1, 2);
        odds(x, 0, 1, 1, 1);
        odds(x, 0, 8, 1, 2);
        odds(x, 1, 0, 9, 100);
        odds(x, 1, 2, 3, 10);
        odds(x, 1, 255, 1, 1);
        odds(x, 1, 248, 9, 100);
        odds(x, 3, 0, 1, 1);
        odds(x, 4, 0, 0, 1);
        odds(x, 4, 16, 3, 10);
        KIT.due("others", x.odds(0, 0, 256, false), -1);
        KIT.due("others", x.odds(0, 0, -1, true), -1);
        KIT.due("no such work", x.odds(0, 5, 0, false), -1);
        KIT.due("no such work", x.odds(0, -1, 0, false), -1);
        KIT.due("no such coast", x.odds(1, 0, 0, false), -1);
        StringBuilder all = new StringBuilder("work 1;");
        for (int w = 0; w < 8; w++) {
            all.append("needs 0 ").append(w).append(";weather ").append(w).append(" 7;");
        }
        odds(Kit.coast(all.toString()), 0, 0, 5764801, 100000000);
    }

    private static void ladder(String coast, int... want) {
        GodWeathers x = Kit.coast(coast);
        KIT.due("ladder of " + coast, x.ladder(0, -1), want.length);
        for (int k = 0; k < 9; k++) {
            KIT.due("ladder " + k + " of " + coast, x.ladder(0, k), k < want.length ? want[k] : -1);
        }
    }

    private static void ladders() {
        ladder("");
        ladder(Examples.COAST, 0, 3);
        ladder("oppose 7 6;", 6, 7);
        ladder("oppose 3 5;oppose 5 1;", 1, 5, 3);
        ladder("oppose 0 1;oppose 0 2;oppose 0 3;", 1, 0, 2);
        ladder("oppose 0 1;oppose 1 2;oppose 2 0;oppose 4 5;oppose 5 6;oppose 6 7;", 4, 5, 6, 7);
        StringBuilder all = new StringBuilder();
        for (int a = 0; a < 8; a++) {
            for (int b = a + 1; b < 8; b++) {
                all.append("oppose ").append(a).append(' ').append(b).append(';');
            }
        }
        ladder(all.toString(), 0, 1, 2, 3, 4, 5, 6, 7);
        GodWeathers x = Kit.coast(Examples.COAST);
        KIT.due("k -2", x.ladder(0, -2), -1);
        KIT.due("no such coast", x.ladder(1, -1), -1);
    }

    private static void storms() {
        GodWeathers x = Kit.coast("weather 0 5;weather 1 5;weather 2 0;weather 3 0;weather 4 0;weather 5 0;weather 6 0;"
            + "weather 7 10;oppose 0 7;");
        long[][] want = {{1, 1}, {1, 1}, {3, 4}, {1, 4}, {0, 1}, {0, 1}, {0, 1}, {0, 1}, {0, 1}};
        for (int n = 0; n < 9; n++) {
            KIT.due("storm " + n, x.storm(0, n, false), want[n][0]);
            KIT.due("storm under " + n, x.storm(0, n, true), want[n][1]);
        }
        KIT.due("another n", x.storm(0, 9, false), -1);
        KIT.due("another n", x.storm(0, -1, true), -1);
        KIT.due("no such coast", x.storm(1, 0, false), -1);
        x = Kit.coast("");
        KIT.due("all by 3 of ten", x.storm(0, 8, false), 6561);
        KIT.due("all by 3 of ten", x.storm(0, 8, true), 100000000);
        KIT.due("any", x.storm(0, 1, false), 100000000 - 5764801);
    }

    private static void lacks() {
        GodWeathers x = Kit.coast(Examples.COAST + "needs 0 6;");
        KIT.due("lack 0", x.lack(0, 0), 64);
        KIT.due("lack 1", x.lack(0, 1), 0);
        KIT.due("lack 2", x.lack(0, 2), 128);
        KIT.due("no such work", x.lack(0, 3), -1);
        KIT.due("no such work", x.lack(0, -1), -1);
        KIT.due("no such coast", x.lack(1, 0), -1);
    }

    private static void levies() {
        GodWeathers x = Kit.coast(Examples.COAST + "work 20;needs 3 0;needs 3 1;work 2;");
        int[] want = {0, 20, 24, 26, 23, -1, -1, -1};
        for (int n = 0; n < 8; n++) {
            KIT.due("levy of " + n, x.levy(0, n), want[n]);
        }
        KIT.due("levy of -1", x.levy(0, -1), -1);
        KIT.due("no works", Kit.coast("").levy(0, 0), 0);
        KIT.due("no works", Kit.coast("").levy(0, 1), -1);
        KIT.due("worth nothing", Kit.coast("work 0;").levy(0, 1), 0);
        KIT.due("no such coast", x.levy(1, 0), -1);
    }

    private static void ready() {
        GodWeathers x = Kit.coast(Examples.COAST + "work 2;");
        KIT.due("ready 0", x.ready(0, 0), 8);
        KIT.due("ready 1 2", x.ready(0, 6), 10);
        KIT.due("ready all", x.ready(0, 255), 15);
        KIT.due("ready 0 3 7", x.ready(0, Kit.bits(0, 3, 7)), 13);
        KIT.due("others", x.ready(0, 256), -1);
        KIT.due("others", x.ready(0, -1), -1);
        KIT.due("no such coast", x.ready(1, 0), -1);
    }

    private static void hopes() {
        GodWeathers x = Kit.coast(Examples.COAST + "work 2;weather 6 0;work 1;needs 4 6;");
        long[][] want = {{2, 1}, {100, 9}, {10, 3}, {1, 1}, {-1, -1}, {-1, -1}};
        for (int work = 0; work < 6; work++) {
            KIT.due("hope " + work, x.hope(0, work, false), want[work][0]);
            KIT.due("hope under " + work, x.hope(0, work, true), want[work][1]);
        }
        KIT.due("no such coast", x.hope(1, 0, false), -1);
    }

    private static void tides() {
        GodWeathers x = Kit.coast(Examples.COAST);
        int[][] want = {{0, 0}, {1, 128}, {4, 128}, {5, 6}, {7, 6}, {8, 9}, {10, 9}, {11, 134}, {12, 137}, {14, 137},
            {15, 15}, {17, 15}, {18, 143}, {21, 143}, {22, -1}, {99, -1}};
        for (int[] row : want) {
            KIT.due("tide " + row[0], x.tide(0, row[0], true), row[1]);
            int many = row[1] < 0 ? -1 : Integer.bitCount(row[1]);
            KIT.due("tide " + row[0], x.tide(0, row[0], false), many);
        }
        KIT.due("another v", x.tide(0, -1, false), -1);
        KIT.due("another v", x.tide(0, 100, true), -1);
        KIT.due("no such coast", x.tide(1, 0, false), -1);
        x = Kit.coast(Kit.times(5, "work 20;"));
        KIT.due("without needs", x.tide(0, 99, false), 0);
        KIT.due("without needs", x.tide(0, 99, true), 0);
        KIT.due("another v, though they are worth it", Kit.coast(Kit.times(6, "work 20;")).tide(0, 100, false), -1);
        StringBuilder all = new StringBuilder("work 1;");
        for (int w = 0; w < 8; w++) {
            all.append("needs 0 ").append(w).append(';');
        }
        KIT.due("all are needed", Kit.coast(all.toString()).tide(0, 1, true), 255);
    }
}
