/** The edges of promises 1 to 5 and 42 to 44: a new object, the tape, texts and their faults, counts, images. */
final class TapeEdges {
    private static final int BLANKS = 0x20202020;
    private final Edges edges;

    private TapeEdges(Edges edges) {
        this.edges = edges;
    }

    static void ask(Edges edges) {
        TapeEdges e = new TapeEdges(edges);
        e.newObject();
        e.highestFirst();
        e.feedUpTo600();
        e.endCutsOff();
        e.endNotSoMany();
        e.textTakesTheTape();
        e.textFurtherOrInPlace();
        e.textWithFault();
        e.textNoneSuch();
        e.faultAndPlace();
        e.faultOfAnotherWhat();
        e.countOfAnother();
        e.imageOfAnother();
        e.imageHasTapeAndFault();
        e.imageStaysAsItWas();
        e.againNoneSuch();
    }

    private static GodWeathers fed(int times) {
        GodWeathers x = new GodWeathers();
        for (int n = 0; n < times; n++) {
            x.feed(BLANKS, BLANKS, BLANKS, BLANKS, BLANKS);
        }
        return x;
    }

    private void length(String when, GodWeathers x, int length) {
        edges.due(when + ": one byte more than the tape has", x.end(length + 1), -1);
        edges.due(when + ": all that the tape has", x.end(length), length);
    }

    private void newObject() {
        edges.promise(1, "No COASTS, YEARS, LOGS; no images.");
        GodWeathers x = new GodWeathers();
        for (int sort = 0; sort < 3; sort++) {
            edges.due("count " + sort, x.count(sort), 0);
        }
        edges.due("coast 0", x.coast(0, 0), -1);
        edges.due("year 0", x.deed(0, -1, 0), -2);
        edges.due("log 0", x.fact(0, -1, 0), -2);
        for (int k = 0; k < 3; k++) {
            edges.due("again " + k, x.again(k), false);
        }
        edges.due("fault", x.fault(0), 0);
        edges.due("its place", x.fault(1), -1);
        length("new", x, 0);
        edges.due("a text of nothing", x.text(0, -1), 0);
    }

    private void highestFirst() {
        edges.promise(2, "twenty bytes come behind it, of each number the highest first: how many it has.");
        for (int place = 0; place < 20; place++) {
            int[] wrong = {0, 1, 127, 128, 129, 160, 187, 255};
            for (int b : wrong) {
                // One byte alone is no blank: the fault's place tells where it came to stand.
                int[] numbers = {BLANKS, BLANKS, BLANKS, BLANKS, BLANKS};
                int shift = 24 - 8 * (place % 4);
                numbers[place / 4] = BLANKS & ~(255 << shift) | b << shift;
                GodWeathers x = new GodWeathers();
                edges.due("feed", x.feed(numbers[0], numbers[1], numbers[2], numbers[3], numbers[4]), 20);
                edges.due("text", x.text(0, -1), -1);
                edges.due("byte " + b + " at " + place, x.fault(1), place);
            }
        }
        GodWeathers x = new GodWeathers();
        edges.due("numbers below 0", x.feed(-1, -1, -1, -1, -1), 20);
        edges.due("and further ones", x.feed(Integer.MIN_VALUE, -2, -256, -65536, -16777216), 40);
        x.end(0);
        x.feed(0x776f726b, 0x20313200 | ';', 0x776f726b, 0x20333b20, 0x200a2020);
        edges.due("words and numbers", x.text(0, -1), 0);
        edges.due("the first work", x.coast(0, 50), 12);
        edges.due("the second work", x.coast(0, 51), 3);
        // Behind a number below 0 the next one stands as it is: its letters are one word.
        x.feed(BLANKS, BLANKS, 0x20202020, 0x776f726b, 0xe0202020);
        edges.due("a byte above 127 behind a word", x.text(0, -1), -1);
        edges.due("its place", x.fault(1), 16);
    }

    private void feedUpTo600() {
        edges.promise(2, "NONE, and nothing comes, if there would be more than 600.");
        GodWeathers x = fed(29);
        edges.due("feed to 600", x.feed(BLANKS, BLANKS, BLANKS, BLANKS, BLANKS), 600);
        edges.due("feed to 620", x.feed(0, 0, 0, 0, 0), -1);
        length("600 stay", x, 600);
        x.end(581);
        edges.due("feed to 601", x.feed(0, 0, 0, 0, 0), -1);
        length("581 stay", x, 581);
        edges.due("and they are the same", x.text(0, -1), 0);
        x = fed(30);
        x.end(580);
        edges.due("feed to 600 again", x.feed(0, 0, 0, 0, 0), 600);
        x.text(0, -1);
        edges.due("it came behind the 580", x.fault(1), 580);
        edges.due("room again", x.feed(0, 0, 0, 0, 0), 20);
    }

    private void endCutsOff() {
        edges.promise(3, "The tape has its first n bytes alone: n.");
        GodWeathers x = new GodWeathers();
        Kit.type(x, "work 1;work 2;work 3;");
        edges.due("end", x.end(7), 7);
        length("cut", x, 7);
        Kit.type(x, " work 9;");
        edges.due("what comes stands behind the seven", x.text(0, -1), 0);
        edges.due("works", x.coast(0, 1), 2);
        edges.due("the second", x.coast(0, 51), 9);
        Kit.type(x, "work 12");
        x.end(6);
        edges.due("a number cut in two", x.text(0, -1), -1);
        edges.due("ends where the tape ends", x.fault(1), 6);
    }

    private void endNotSoMany() {
        edges.promise(3, "NONE if it has not so many, or n is below 0.");
        GodWeathers x = new GodWeathers();
        Kit.type(x, "work 5;");
        int[] others = {8, 9, -1, -2, 600, 601, Integer.MAX_VALUE, Integer.MIN_VALUE};
        for (int n : others) {
            edges.due("end " + n, x.end(n), -1);
            edges.due("as it was", x.end(7), 7);
        }
        edges.due("the text is as it was", x.text(0, -1), 0);
        edges.due("its work", x.coast(0, 50), 5);
        edges.due("of an empty tape, 1", x.end(1), -1);
        edges.due("of an empty tape, 0", x.end(0), 0);
        edges.due("of an empty tape, -1", x.end(-1), -1);
        x = fed(30);
        edges.due("601 of 600", x.end(601), -1);
        edges.due("600 of 600", x.end(600), 600);
    }

    private void textTakesTheTape() {
        edges.promise(4, "The tape is taken (and is empty then)");
        for (int sort = 0; sort < 3; sort++) {
            GodWeathers x = fed(2);
            edges.due("text", x.text(sort, -1), 0);
            length("taken", x, 0);
            Kit.type(x, "?");
            edges.due("fault", x.text(sort, -1), -1);
            length("taken with a fault", x, 0);
            edges.due("feed", x.feed(0, 0, 0, 0, 0), 20);
            edges.due("none such", x.text(sort, 1), -2);
            length("taken, none such", x, 0);
            edges.due("feed", x.feed(0, 0, 0, 0, 0), 20);
            edges.due("no such sort", x.text(3, -1), -2);
            length("taken, no such sort", x, 0);
            x.text(sort, -1);
            edges.due("feed", x.feed(0, 0, 0, 0, 0), 20);
            edges.due("as many as may be", x.text(sort, -1), -2);
            length("taken, as many as may be", x, 0);
        }
    }

    private void textFurtherOrInPlace() {
        edges.promise(4, "a further one (at NONE), or in the place of one: its number.");
        String[] one = {"work 1;", "come 1;", "heard 1;"};
        String[] two = {"work 2;", "come 2;", "heard 2;"};
        for (int sort = 0; sort < 3; sort++) {
            GodWeathers x = new GodWeathers();
            edges.due("first", Kit.tell(x, sort, -1, one[sort]), 0);
            edges.due("in its place", Kit.tell(x, sort, 0, two[sort]), 0);
            edges.due("still one", x.count(sort), 1);
            edges.due("the later", number(x, sort, 0), 2);
            edges.due("second", Kit.tell(x, sort, -1, one[sort]), 1);
            edges.due("the first stays", number(x, sort, 0), 2);
            edges.due("the second", number(x, sort, 1), 1);
            edges.due("in its place", Kit.tell(x, sort, 1, two[sort]), 1);
            edges.due("the second, anew", number(x, sort, 1), 2);
            edges.due("in the first's", Kit.tell(x, sort, 0, one[sort]), 0);
            edges.due("the first, anew", number(x, sort, 0), 1);
            edges.due("two", x.count(sort), 2);
        }
        nothingOfTheFormer();
    }

    /** What stands in the place of one has nothing of it, as if it were the first. */
    private void nothingOfTheFormer() {
        GodWeathers x = Examples.full(1, 1, 1);
        Kit.tell(x, 0, 0, "weather 0 10;patience 0 9;work 1;child 5 6 7;");
        Kit.tell(x, 0, 0, "work 1;child 0 1 2;");
        Kit.tell(x, 1, 0, "day;");
        Kit.tell(x, 2, 0, "deaf 7;");
        GodWeathers first = Kit.coastAndYear("work 1;child 0 1 2;", "day;");
        Kit.tell(first, 2, "deaf 7;");
        for (int what = 0; what < 70; what++) {
            edges.due("coast " + what, x.coast(0, what), first.coast(0, what));
        }
        for (int k = -1; k < 3; k++) {
            edges.due("deed " + k, x.deed(0, k, 0), first.deed(0, k, 0));
            edges.due("fact " + k, x.fact(0, k, 0), first.fact(0, k, 0));
        }
        edges.due("fits", x.fits(0, 0), 35);
    }

    private static long number(GodWeathers x, int sort, int at) {
        return sort == 0 ? x.coast(at, 50) : sort == 1 ? x.deed(at, 0, 1) : x.fact(at, 0, 1);
    }

    private void textWithFault() {
        edges.promise(4, "NONE: a FAULT.");
        String[] good = {"work 1;", "come 1;", "heard 1;"};
        String[] faulty = {"work 2;work", "come 2;come", "heard 2;heard"};
        for (int sort = 0; sort < 3; sort++) {
            GodWeathers x = new GodWeathers();
            edges.due("further", Kit.tell(x, sort, -1, faulty[sort]), -1);
            edges.due("none came", x.count(sort), 0);
            Kit.tell(x, sort, -1, good[sort]);
            edges.due("in the place of one", Kit.tell(x, sort, 0, faulty[sort]), -1);
            edges.due("which stays", number(x, sort, 0), 1);
            edges.due("alone", x.count(sort), 1);
            Kit.tell(x, sort, -1, good[sort]);
            edges.due("as many as may be, with a fault", Kit.tell(x, sort, -1, faulty[sort]), -2);
            edges.due("which was not read", x.fault(0), 0);
        }
    }

    private void textNoneSuch() {
        edges.promise(4, "-2: there is none such, there are as many as may be, or no such sort (no text is read then, FAULT 0).");
        for (int sort = 0; sort < 3; sort++) {
            int one = sort;
            for (int many = 0; many <= 2; many++) {
                GodWeathers x = Examples.full(many, many, many);
                edges.only("in the place of one of " + many, x, many == 2 ? 0 : -1, many - 1, -2, (y, at) -> y.text(one, at));
            }
        }
        edges.only("sorts", new GodWeathers(), 0, 2, -2, (x, sort) -> x.text(sort, -1));
        int[][] refused = {{0, 0}, {1, 0}, {2, 0}, {0, -2}, {0, 1}, {3, -1}, {3, 0}, {-1, -1}, {Integer.MAX_VALUE, -1}};
        for (int[] r : refused) {
            GodWeathers x = new GodWeathers();
            Kit.tell(x, 2, "deaf 9;");
            Kit.type(x, "work 77;");
            edges.due("text", x.text(r[0], r[1]), -2);
            edges.due("fault", x.fault(0), 0);
            edges.due("place", x.fault(1), -1);
            for (int sort = 0; sort < 3; sort++) {
                edges.due("none came", x.count(sort), 0);
            }
        }
    }

    private void faultAndPlace() {
        edges.promise(5, "Of the latest text(), what 0: the FAULT, 0 without, 1: its place, NONE without.");
        GodWeathers x = new GodWeathers();
        edges.due("ahead of every text", x.fault(0), 0);
        edges.due("ahead of every text", x.fault(1), -1);
        Kit.tell(x, 0, ";");
        edges.due("fault", x.fault(0), 1);
        edges.due("at the first byte", x.fault(1), 0);
        x.feed(0, 0, 0, 0, 0);
        x.end(0);
        edges.due("the latest text's still", x.fault(0), 1);
        edges.due("the latest text's still", x.fault(1), 0);
        Kit.tell(x, 0, Kit.times(594, " ") + "work 1");
        edges.due("fault", x.fault(0), 1);
        edges.due("at the end of a full tape", x.fault(1), 600);
        Kit.tell(x, 0, "");
        edges.due("without", x.fault(0), 0);
        edges.due("without", x.fault(1), -1);
    }

    private void faultOfAnotherWhat() {
        edges.promise(5, "NONE for another what.");
        GodWeathers x = new GodWeathers();
        Kit.tell(x, 0, "work 21;");
        edges.only("fault", x, 0, 1, -1, (y, what) -> y.fault(what));
    }

    private void countOfAnother() {
        edges.promise(42, "-2 for another one.");
        for (int many = 0; many <= 2; many++) {
            edges.only("count", Examples.full(many, many, many), 0, 2, -2, (x, sort) -> x.count(sort));
        }
        GodWeathers x = Examples.full(2, 1, 0);
        edges.due("coasts", x.count(0), 2);
        edges.due("years", x.count(1), 1);
        edges.due("logs", x.count(2), 0);
    }

    private void imageOfAnother() {
        edges.promise(43, "Image k (0 .. 2)");
        edges.only("image", new GodWeathers(), 0, 2, 0, (x, k) -> x.image(k) ? 1 : 0);
        edges.promise(43, "false for another k.");
        GodWeathers x = new GodWeathers();
        Kit.tell(x, 0, "work 1;");
        edges.due("image 3", x.image(3), false);
        edges.due("image -1", x.image(-1), false);
        for (int k = -1; k <= 3; k++) {
            edges.due("no image came, " + k, x.again(k), false);
        }
        edges.due("and all is as it was", x.coast(0, 50), 1);
    }

    private void imageHasTapeAndFault() {
        edges.promise(43, "all that is told (the tape, the FAULT, too), as it is now: true");
        GodWeathers x = Examples.full(1, 1, 1);
        Kit.tell(x, 0, "work 21;");
        Kit.type(x, "work 8;");
        edges.due("image", x.image(2), true);
        edges.due("and all is as it was", x.fault(1), 5);
        x.end(0);
        Kit.type(x, "deaf 0;");
        x.end(0);
        for (int sort = 0; sort < 3; sort++) {
            Kit.tell(x, sort, 0, "");
            Kit.tell(x, sort, "");
        }
        edges.due("again", x.again(2), true);
        edges.due("fault", x.fault(0), 2);
        edges.due("place", x.fault(1), 5);
        for (int sort = 0; sort < 3; sort++) {
            edges.due("count", x.count(sort), 1);
        }
        edges.due("works", x.coast(0, 1), 6);
        edges.due("deeds", x.deed(0, -1, 0), 40);
        edges.due("facts", x.fact(0, -1, 0), 8);
        edges.due("the tape", x.end(8), -1);
        edges.due("as a text", x.text(0, -1), 1);
        edges.due("its work", x.coast(1, 50), 8);
        x = fed(30);
        x.image(0);
        x.text(0, -1);
        x.again(0);
        length("a full tape", x, 600);
        edges.due("which is full", x.feed(0, 0, 0, 0, 0), -1);
    }

    private void imageStaysAsItWas() {
        edges.promise(44, "All that is as image k has it: true");
        GodWeathers x = new GodWeathers();
        edges.due("an image of nothing", x.image(0), true);
        for (int k = 1; k < 3; k++) {
            Kit.tell(x, 0, 0, k == 1 ? "" : "work 1;");
            Kit.tell(x, 0, k == 1 ? "work 1;" : "work 2;");
            x.image(k);
        }
        for (int round = 0; round < 2; round++) {
            for (int k = 2; k >= 0; k--) {
                edges.due("again " + k, x.again(k), true);
                edges.due("coasts of image " + k, x.count(0), k);
                edges.due("its last work", x.coast(k - 1, 50), k == 0 ? -1 : k);
                Kit.tell(x, 0, k - 1, "work 20;");
                Kit.tell(x, 1, "day;");
                edges.due("years come and go", x.count(1), 1);
            }
        }
        x.again(2);
        x.image(0);
        Kit.tell(x, 0, 0, "work 20;");
        x.again(0);
        edges.due("an image in the place of another", x.coast(0, 50), 1);
    }

    private void againNoneSuch() {
        edges.promise(44, "false if there is none such.");
        for (int taken = 0; taken < 3; taken++) {
            GodWeathers x = Examples.full(1, 1, 1);
            x.image(taken);
            Kit.tell(x, 0, "work 1;work");
            Kit.type(x, "work 3;");
            int[] others = {-1, 3, (taken + 1) % 3, (taken + 2) % 3, Integer.MIN_VALUE, Integer.MAX_VALUE};
            for (int k : others) {
                edges.due("again " + k + ", taken " + taken, x.again(k), false);
            }
            edges.due("the fault is as it was", x.fault(1), 11);
            length("the tape is as it was", x, 7);
            edges.due("again " + taken, x.again(taken), true);
            edges.due("without a fault", x.fault(1), -1);
            length("without a tape", x, 0);
        }
    }
}
