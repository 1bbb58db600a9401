/** The edges of DRAWN in Terms 4: the numbers drawn, of any seed, and what each of them does. */
final class DrawnEdges {
    private static final int[] SEEDS = {0, 1, -1, 2, -2, 12345, -12345, 65535, 65536, -65536, Integer.MAX_VALUE,
        Integer.MAX_VALUE - 1, Integer.MIN_VALUE, Integer.MIN_VALUE + 1, 0x40000000, 0xc0000000};
    private static final String PATIENT = "patience 0 9;patience 1 9;patience 2 9;";

    private final Edges edges;

    /** A year of at most one child, of 0, 1 and 2, and at most one work, which needs nothing; nobody is offended in it. */
    private static final class Draws {
        private long x;
        int day;
        int here;
        int asked;
        int done;
        int drawn;
        int lot;
        final int[] forgotten = new int[3];

        Draws(int seed) {
            x = seed & 0xffffffffL;
        }

        private int below(int n) {
            x = (x * 1103515245L + 12345L) % 4294967296L;
            drawn++;
            return (int) (x / 65536 % n);
        }

        void draw(int children, int works) {
            lot = below(8);
            if (lot <= 3 && children > 0) {
                below(children);
                int w = below(3);
                if (lot == 3 || asked == 0) {
                    forgotten[w] = 0;
                    here |= lot == 3 ? 0 : 1 << w;
                    asked |= lot == 3 ? 0 : 1;
                }
            } else if (lot == 4) {
                here |= 1 << below(8);
            } else if (lot == 5 && works > 0) {
                below(works);
                done = 1;
            } else if (lot > 5) {
                day++;
                here = 0;
                asked = 0;
                for (int w = 0; w < 3; w++) {
                    forgotten[w]++;
                }
            }
        }
    }

    private DrawnEdges(Edges edges) {
        this.edges = edges;
    }

    static void ask(Edges edges) {
        DrawnEdges e = new DrawnEdges(edges);
        e.of32Bits();
        e.times();
        e.lots();
        e.withoutChildrenOrWorks();
    }

    private void same(GodWeathers x, int seed, int n, int children, int works) {
        Draws draws = new Draws(seed);
        for (int k = 0; k < n; k++) {
            draws.draw(children, works);
        }
        String call = "drawn of seed " + seed + ", " + n + " times, ";
        edges.due(call + "day", x.drawn(0, seed, n, 0), draws.day);
        edges.due(call + "here", x.drawn(0, seed, n, 1), draws.here);
        edges.due(call + "done", x.drawn(0, seed, n, 2), draws.done);
        edges.due(call + "asked", x.drawn(0, seed, n, 5), draws.asked);
        for (int w = 0; w < 3; w++) {
            edges.due(call + "forgotten " + w, x.drawn(0, seed, n, 100 + w), children > 0 ? draws.forgotten[w] : -1);
        }
    }

    private void of32Bits() {
        edges.terms(4, "x becomes x * 1103515245 + 12345 (of 32 bits), it is x shifted right by 16 without sign, remainder by n");
        for (int seed : SEEDS) {
            GodWeathers x = Kit.coast("child 0 1 2;work 1;" + PATIENT);
            for (int n = 0; n <= 9; n++) {
                same(x, seed, n, 1, 1);
            }
        }
    }

    private void times() {
        edges.terms(4, "n times, 0 to 60");
        for (int seed : SEEDS) {
            GodWeathers x = Kit.coast("work 1;");
            same(x, seed, 0, 0, 1);
            same(x, seed, 1, 0, 1);
            same(x, seed, 59, 0, 1);
            same(x, seed, 60, 0, 1);
            edges.due("61", x.drawn(0, seed, 61, 0), -1);
            edges.due("-1", x.drawn(0, seed, -1, 0), -1);
        }
    }

    /** The first seed of which the first number below 8 is this one. */
    private static int seedOf(int lot) {
        for (int seed = 0; seed < 1000000; seed += 4001) {
            Draws draws = new Draws(seed);
            draws.draw(0, 0);
            if (draws.lot == lot) {
                return seed;
            }
        }
        throw new IllegalStateException("no seed for " + lot);
    }

    private void lots() {
        edges.terms(4, "0 to 2: ask, 3: thank, a CHILD, below CHILDREN, a number below 3: of its GODPARENTS, by numbers; 4: come, a number below 8; 5: do, a WORK, below WORKS; 6, 7: day; each, if it may.");
        GodWeathers x = Kit.coast("child 2 0 1;work 1;" + PATIENT);
        for (int lot = 0; lot < 8; lot++) {
            int seed = seedOf(lot);
            edges.due("asked by " + lot, x.drawn(0, seed, 1, 5), lot <= 2 ? 1 : 0);
            edges.due("one is here by " + lot, x.drawn(0, seed, 1, 1) != 0, lot <= 2 || lot == 4);
            edges.due("done by " + lot, x.drawn(0, seed, 1, 2), lot == 5 ? 1 : 0);
            edges.due("day by " + lot, x.drawn(0, seed, 1, 0), lot >= 6 ? 1 : 0);
            same(x, seed, 1, 1, 1);
        }
        // What may not be is not done, and the next is drawn all the same.
        GodWeathers needy = Kit.coast("child 0 1 2;work 1;needs 0 3;needs 0 4;" + PATIENT);
        int seed = seedOf(5);
        edges.due("not all it needs is here", needy.drawn(0, seed, 1, 2), 0);
        Draws draws = new Draws(seed);
        for (int k = 0; k < 9; k++) {
            draws.draw(1, 1);
        }
        edges.due("days go on", needy.drawn(0, seed, 9, 0), draws.day);
    }

    private void withoutChildrenOrWorks() {
        edges.terms(4, "(Without CHILDREN 0 to 3, without WORKS 5 draw no more, nothing is done.)");
        String[] coasts = {"", "child 0 1 2;" + PATIENT, "work 1;", "child 0 1 2;work 1;" + PATIENT};
        for (int which = 0; which < 4; which++) {
            for (int lot = 0; lot < 8; lot++) {
                GodWeathers x = Kit.coast(coasts[which]);
                for (int n = 1; n <= 9; n++) {
                    same(x, seedOf(lot), n, which % 2, which / 2);
                }
            }
        }
        for (int lot = 0; lot < 4; lot++) {
            Draws draws = new Draws(seedOf(lot));
            draws.draw(0, 1);
            edges.due("numbers drawn without children", draws.drawn, 1);
        }
    }
}
