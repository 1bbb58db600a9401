/** The edges of Terms 1 and promise 6: what a text may tell, its tokens, its faults, and a coast as told. */
final class TextEdges {
    private static final int COAST = 0;
    private static final int YEAR = 1;
    private static final int LOG = 2;
    private static final String SIX_WORKS = Kit.times(6, "work 1;");

    private final Edges edges;

    private TextEdges(Edges edges) {
        this.edges = edges;
    }

    static void ask(Edges edges) {
        TextEdges e = new TextEdges(edges);
        e.weathers();
        e.chances();
        e.patiences();
        e.children();
        e.works();
        e.deeds();
        e.facts();
        e.fullTape();
        e.blanks();
        e.words();
        e.numbers();
        e.semicolons();
        e.worksThatAreNeeded();
        e.childrenOfDeeds();
        e.laterOnes();
        e.faultOne();
        e.longerRowOfDigits();
        e.firstByPlace();
        e.unlikeWeathers();
        e.lineWithSuchANumber();
        e.faultThree();
        e.faultFour();
        e.atMostTwo();
        e.coastNoneSuch();
    }

    private void good(int sort, String text) {
        fault(sort, text, 0, -1);
    }

    private void fault(int sort, String text, int fault, int place) {
        GodWeathers x = new GodWeathers();
        edges.due("text of " + text, Kit.tell(x, sort, text), fault == 0 ? 0 : -1);
        edges.due("fault of " + text, x.fault(0), fault);
        edges.due("place of " + text, x.fault(1), place);
    }

    /** A NUMBER between two pieces of a text: the least and the greatest that may be, and those beyond. */
    private void number(int sort, String before, String behind, int least, int greatest) {
        good(sort, before + least + behind);
        good(sort, before + greatest + behind);
        fault(sort, before + (greatest + 1) + behind, 2, before.length());
        fault(sort, before + "99" + behind, 2, before.length());
        if (least > 0) {
            fault(sort, before + (least - 1) + behind, 2, before.length());
            fault(sort, before + "00" + behind, 2, before.length());
        }
    }

    private void weathers() {
        edges.terms(1, "WEATHERS, 0 .. 7");
        number(COAST, "child ", " 1 2;", 0, 7);
        number(COAST, "child 1 ", " 2;", 0, 7);
        number(COAST, "child 1 2 ", ";", 0, 7);
        number(COAST, "weather ", " 1;", 0, 7);
        number(COAST, "patience ", " 1;", 0, 7);
        number(COAST, "oppose ", " 1;", 0, 7);
        number(COAST, "oppose 1 ", ";", 0, 7);
        number(COAST, "work 1;needs 0 ", ";", 0, 7);
        number(YEAR, "ask 0 ", ";", 0, 7);
        number(YEAR, "thank 0 ", ";", 0, 7);
        number(YEAR, "come ", ";", 0, 7);
        number(LOG, "heard ", ";", 0, 7);
        number(LOG, "deaf ", ";", 0, 7);
        GodWeathers x = Kit.coast("child 7 0 1;oppose 0 7;weather 0 1;weather 7 2;patience 0 8;patience 7 9;work 1;needs 0 0;needs 0 7;");
        int[][] want = {{40, 131}, {30, 128}, {37, 1}, {10, 1}, {17, 2}, {20, 8}, {27, 9}, {60, 129}};
        for (int[] row : want) {
            edges.due("coast " + row[0], x.coast(0, row[0]), row[1]);
        }
    }

    private void chances() {
        edges.terms(1, "CHANCE, 0 .. 10 (3 at first)");
        GodWeathers x = Kit.coast("weather 0 0;weather 7 10;");
        int[] want = {0, 3, 3, 3, 3, 3, 3, 10};
        for (int w = 0; w < 8; w++) {
            edges.due("chance of " + w, x.coast(0, 10 + w), want[w]);
            number(COAST, "weather " + w + " ", ";", 0, 10);
        }
    }

    private void patiences() {
        edges.terms(1, "PATIENCE, 1 .. 9 (3 at first)");
        GodWeathers x = Kit.coast("patience 0 1;patience 7 9;");
        int[] want = {1, 3, 3, 3, 3, 3, 3, 9};
        for (int w = 0; w < 8; w++) {
            edges.due("patience of " + w, x.coast(0, 20 + w), want[w]);
            number(COAST, "patience " + w + " ", ";", 1, 9);
        }
    }

    private void children() {
        edges.terms(1, "CHILDREN, at most 6, from 0 on: three unlike WEATHERS, their GODPARENTS");
        StringBuilder six = new StringBuilder();
        for (int c = 0; c < 6; c++) {
            six.append("child ").append(c).append(' ').append(c + 1).append(' ').append(c + 2).append(';');
        }
        GodWeathers x = Kit.coast(six.toString());
        edges.due("children", x.coast(0, 0), 6);
        for (int c = 0; c < 6; c++) {
            edges.due("child " + c, x.coast(0, 40 + c), 7 << c);
        }
        fault(COAST, six + "child 0 1 2;", 3, six.length());
        edges.due("without", Kit.coast("").coast(0, 0), 0);
        fault(COAST, "child 5 5 6;", 2, 8);
        fault(COAST, "child 5 6 5;", 2, 10);
        fault(COAST, "child 6 5 5;", 2, 10);
        good(COAST, "child 7 6 5;");
    }

    private void works() {
        edges.terms(1, "WORKS, at most 6, from 0 on: WORTH, 0 .. 20, which WEATHERS each NEEDS (none at first).");
        number(COAST, "work ", ";", 0, 20);
        String six = "work 0;work 20;work 1;work 19;work 2;work 18;";
        GodWeathers x = Kit.coast(six);
        int[] worth = {0, 20, 1, 19, 2, 18};
        edges.due("works", x.coast(0, 1), 6);
        for (int k = 0; k < 6; k++) {
            edges.due("worth of " + k, x.coast(0, 50 + k), worth[k]);
            edges.due("needs of " + k, x.coast(0, 60 + k), 0);
        }
        fault(COAST, six + "work 0;", 3, six.length());
        edges.due("without", Kit.coast("").coast(0, 1), 0);
    }

    private void deeds() {
        edges.terms(1, "A YEAR has DEEDS, at most 40, from 0 on.");
        String[] deeds = {"ask 0 0;", "thank 0 0;", "come 0;", "do 0;", "day;"};
        for (String deed : deeds) {
            String forty = Kit.times(40, deed);
            good(YEAR, forty);
            fault(YEAR, forty + deed, 3, forty.length());
            fault(YEAR, forty + "day;", 3, forty.length());
        }
        GodWeathers x = new GodWeathers();
        Kit.tell(x, YEAR, Kit.times(39, "day;") + "come 7;");
        edges.due("the first", x.deed(0, 0, 0), 4);
        edges.due("the 40th", x.deed(0, 39, 0), 2);
        edges.due("its number", x.deed(0, 39, 1), 7);
        edges.due("none", Kit.tell(x, YEAR, ""), 1);
        edges.due("none", x.deed(1, -1, 0), 0);
    }

    private void facts() {
        edges.terms(1, "A LOG has FACTS, at most 8, from 0 on: a WEATHER HEARD a child, or was DEAF to it.");
        String eight = Kit.times(7, "deaf 0;") + "heard 7;";
        good(LOG, eight);
        fault(LOG, eight + "deaf 0;", 3, eight.length());
        fault(LOG, eight + "heard 0;", 3, eight.length());
        GodWeathers x = Kit.log(eight);
        edges.due("the first", x.fact(0, 0, 0), 1);
        edges.due("the eighth", x.fact(0, 7, 0), 0);
        edges.due("its weather", x.fact(0, 7, 1), 7);
        edges.due("none", Kit.log("").fact(0, -1, 0), 0);
    }

    private void fullTape() {
        edges.terms(1, "THE TAPE has at most 600 bytes.");
        GodWeathers x = new GodWeathers();
        edges.due("text", Kit.tell(x, COAST, Kit.times(592, " ") + "work 19;"), 0);
        edges.due("its last line is read", x.coast(0, 50), 19);
        fault(COAST, Kit.times(600, "w"), 1, 0);
        fault(COAST, Kit.times(599, "\n") + "w", 1, 599);
        fault(COAST, Kit.times(599, " ") + ";", 1, 599);
        fault(COAST, Kit.times(594, " ") + "work 1", 1, 600);
        fault(COAST, Kit.times(600, "1"), 1, 0);
        x = new GodWeathers();
        Kit.type(x, Kit.times(600, " "));
        edges.due("one byte more", x.feed(0, 0, 0, 0, 0), -1);
    }

    /** A text of one work with this byte in the place of the blank between. */
    private static GodWeathers between(int b) {
        GodWeathers x = new GodWeathers();
        Kit.tell(x, COAST, "work" + (char) b + "1;");
        return x;
    }

    private void blanks() {
        edges.terms(1, "TOKENS, as long as they go, blanks (10, 32) between");
        int[] others = {0, 9, 11, 13, 31, 33, 127, 128, 138, 160, 255};
        for (int b : others) {
            edges.due("byte " + b, between(b).fault(0), 1);
            edges.due("byte " + b, between(b).fault(1), 4);
        }
        edges.due("byte 10", between(10).fault(0), 0);
        edges.due("byte 32", between(32).fault(0), 0);
        good(COAST, "");
        good(COAST, " ");
        good(COAST, "\n");
        good(COAST, "\n \n work\n \n1 \n;\n");
        // Tokens that part by themselves need none between.
        good(COAST, "work1;child0 1 2;needs0 0;");
        fault(COAST, "wo rk 1;", 1, 0);
        fault(COAST, "work 1 2;", 1, 7);
        fault(COAST, "workchild 1;", 1, 0);
        fault(YEAR, "day;d ay;", 1, 4);
    }

    private void words() {
        edges.terms(1, "words, rows of letters a .. z");
        // What is a letter makes the word longer, which no text goes on with; what is none is wrong itself.
        fault(COAST, "worka 1;", 1, 0);
        fault(COAST, "workz 1;", 1, 0);
        fault(COAST, "awork 1;", 1, 0);
        fault(COAST, "zwork 1;", 1, 0);
        int[] others = {'`', '{', 'A', 'Z', '@', '[', 'a' + 128, 'z' + 128};
        for (int b : others) {
            edges.due("byte " + b, between(b).fault(0), 1);
            edges.due("byte " + b, between(b).fault(1), 4);
        }
        fault(COAST, "work 1;`ork 1;", 1, 7);
        fault(COAST, "work 1;Work 1;", 1, 7);
        String[] coastWords = {"child 0 1 2;", "weather 0 1;", "oppose 0 1;", "needs 0 1;", "patience 0 1;", "work 1;"};
        String[] yearWords = {"ask 0 0;", "thank 0 0;", "come 0;", "do 0;", "day;"};
        String[] logWords = {"heard 0;", "deaf 0;"};
        String[][] all = {coastWords, yearWords, logWords};
        for (int sort = 0; sort < 3; sort++) {
            for (int other = 0; other < 3; other++) {
                for (String line : all[other]) {
                    String text = SIX_WORKS.substring(0, sort == COAST ? 7 : 0) + line;
                    fault(sort, text, sort == other ? 0 : 1, sort == other ? -1 : text.length() - line.length());
                }
            }
            for (String line : all[sort]) {
                fault(sort, line.substring(1), 1, 0);
                fault(sort, "x" + line.substring(1), 1, 0);
                fault(sort, line.replaceFirst(".(?=[ ;])", ""), 1, 0);
                fault(sort, line.replaceFirst("(?=[ ;])", "s"), 1, 0);
            }
        }
    }

    private void numbers() {
        edges.terms(1, "NUMBERS, 1 or 2 digits");
        int[][] worth = {{0, 0}, {9, 9}, {10, 10}, {19, 19}};
        for (int[] row : worth) {
            edges.due("worth", Kit.coast("work " + row[0] + ";").coast(0, 50), row[1]);
        }
        edges.due("00", Kit.coast("work 00;").coast(0, 50), 0);
        edges.due("09", Kit.coast("work 09;").coast(0, 50), 9);
        fault(COAST, "work 000;", 1, 5);
        fault(COAST, "work 100;", 1, 5);
        fault(COAST, "work /;", 1, 5);
        fault(COAST, "work 1/;", 1, 6);
        fault(COAST, "work 1:;", 1, 6);
        fault(COAST, "work :;", 1, 5);
        fault(COAST, "work +1;", 1, 5);
        fault(COAST, "work -1;", 1, 5);
        fault(COAST, "work " + (char) ('1' + 128) + ";", 1, 5);
        fault(COAST, "work 1" + (char) ('1' + 128) + ";", 1, 6);
        fault(COAST, "work;", 1, 4);
    }

    private void semicolons() {
        edges.terms(1, "; ; one byte.");
        good(COAST, "work 1;work 2;");
        good(COAST, "work 1 ; work 2\n;");
        fault(COAST, ";", 1, 0);
        fault(COAST, "work 1;;", 1, 7);
        fault(COAST, "work 1; ;", 1, 8);
        fault(COAST, "work 1:", 1, 6);
        fault(COAST, "work 1<", 1, 6);
        fault(COAST, "work 1" + (char) (';' + 128), 1, 6);
        fault(COAST, "work 1 work 2;", 1, 7);
        fault(COAST, "work 1", 1, 6);
        fault(YEAR, "day day;", 1, 4);
        fault(LOG, "heard 1", 1, 7);
    }

    private void worksThatAreNeeded() {
        edges.terms(1, "needs: a WORK, 0 .. 5, a WEATHER");
        number(COAST, SIX_WORKS + "needs ", " 0;", 0, 5);
        GodWeathers x = Kit.coast(SIX_WORKS + "needs 0 1;needs 5 7;");
        edges.due("the first", x.coast(0, 60), 2);
        edges.due("the last", x.coast(0, 65), 128);
    }

    private void childrenOfDeeds() {
        edges.terms(1, "ask, thank: a CHILD, 0 .. 5, a WEATHER; come: a WEATHER; do: a WORK");
        number(YEAR, "ask ", " 0;", 0, 5);
        number(YEAR, "thank ", " 0;", 0, 5);
        number(YEAR, "come ", ";", 0, 7);
        number(YEAR, "do ", ";", 0, 5);
        GodWeathers x = new GodWeathers();
        Kit.tell(x, YEAR, "ask 5 7;thank 5 7;come 7;do 5;");
        int[][] want = {{0, 5, 7}, {1, 5, 7}, {2, 7, -1}, {3, 5, -1}};
        for (int k = 0; k < 4; k++) {
            for (int what = 0; what < 3; what++) {
                edges.due("deed " + k + " " + what, x.deed(0, k, what), want[k][what]);
            }
        }
    }

    private void laterOnes() {
        edges.terms(1, "Later ones strike (weather, patience), but all others, which are further ones.");
        GodWeathers x = Kit.coast("weather 0 10;weather 0 0;patience 0 9;patience 0 1;oppose 0 1;oppose 0 2;oppose 1 0;work 1;work 1;"
            + "needs 0 3;needs 0 4;needs 0 3;child 0 1 2;child 0 1 2;");
        int[][] want = {{10, 0}, {20, 1}, {30, 6}, {31, 1}, {32, 1}, {1, 2}, {60, 24}, {61, 0}, {0, 2}};
        for (int[] row : want) {
            edges.due("coast " + row[0], x.coast(0, row[0]), row[1]);
        }
        good(COAST, Kit.times(54, "oppose 0 1;"));
        good(COAST, Kit.times(46, "weather 0 1;"));
    }

    private void faultOne() {
        edges.terms(1, "1 the first byte or token with which no text goes on");
        fault(COAST, "child 0 1 2", 1, 11);
        fault(COAST, "child 0 1 2 \n", 1, 13);
        fault(COAST, "child 0 1;", 1, 9);
        fault(COAST, "child 0 1 2 3;", 1, 12);
        fault(COAST, "child", 1, 5);
        fault(COAST, "oppose 0;", 1, 8);
        fault(COAST, "oppose 0 1 2;", 1, 11);
        fault(COAST, "needs 0;", 1, 7);
        fault(COAST, "weather 0;", 1, 9);
        fault(COAST, "patience 0;", 1, 10);
        fault(COAST, "work 1 1;", 1, 7);
        fault(COAST, "work work;", 1, 5);
        fault(COAST, "12;", 1, 0);
        fault(YEAR, "ask 0;", 1, 5);
        fault(YEAR, "thank 0 0 0;", 1, 10);
        fault(YEAR, "come;", 1, 4);
        fault(YEAR, "do 0 0;", 1, 5);
        fault(YEAR, "day 0;", 1, 4);
        fault(LOG, "deaf;", 1, 4);
        fault(LOG, "heard 0 0;", 1, 8);
        // It outdoes all others, which are ahead of it.
        fault(COAST, "work 21;?", 1, 8);
        fault(COAST, Kit.times(7, "work 1;") + "?", 1, 49);
        fault(COAST, "needs 0 0;?", 1, 10);
        fault(COAST, "? ?", 1, 0);
    }

    private void longerRowOfDigits() {
        edges.terms(1, "(a longer row of digits is no token).");
        good(COAST, "work 12;");
        fault(COAST, "work 012;", 1, 5);
        fault(COAST, "work 123;", 1, 5);
        fault(COAST, "work 99;work 1234567890123;", 1, 13);
        fault(COAST, "work 12 3;", 1, 8);
        fault(COAST, "work 1;123", 1, 7);
        fault(COAST, "work 1 123;", 1, 7);
        fault(COAST, "work 4294967297;", 1, 5);
        GodWeathers x = new GodWeathers();
        Kit.type(x, "work 123");
        x.end(7);
        Kit.type(x, ";");
        edges.due("cut off to two", x.text(0, -1), 0);
        edges.due("its worth", x.coast(0, 50), 12);
    }

    private void firstByPlace() {
        edges.terms(1, "If there is none, the first by place, of one place the least: 2 a NUMBER that can't be");
        fault(COAST, "work 21;work 22;", 2, 5);
        fault(COAST, "work 20;work 21;work 22;", 2, 13);
        fault(COAST, "child 8 9 10;", 2, 6);
        fault(COAST, "child 0 9 10;", 2, 8);
        fault(COAST, "weather 8 11;", 2, 8);
        fault(COAST, "needs 6 8;", 2, 6);
        fault(COAST, "needs 0 8;", 2, 8);
        fault(YEAR, "ask 6 8;", 2, 4);
        fault(YEAR, "day;do 6;come 8;", 2, 7);
        fault(COAST, SIX_WORKS + "work 21;", 3, 42);
        fault(COAST, SIX_WORKS + "weather 8 1;work 1;", 2, 50);
        fault(COAST, SIX_WORKS + "work 1;weather 8 1;", 3, 42);
        fault(LOG, Kit.times(8, "deaf 0;") + "deaf 8;", 3, 56);
    }

    private void unlikeWeathers() {
        edges.terms(1, "of child a WEATHER that is one ahead of it in this line, of oppose the second one, if it is the first;");
        fault(COAST, "child 0 0 0;", 2, 8);
        fault(COAST, "child 0 00 1;", 2, 8);
        fault(COAST, "child 0 1 0;", 2, 10);
        fault(COAST, "child 1 0 0;", 2, 10);
        good(COAST, "child 0 1 2;child 0 1 2;");
        fault(COAST, "oppose 0 0;", 2, 9);
        fault(COAST, "oppose 7 7;", 2, 9);
        fault(COAST, "oppose 7 07;", 2, 9);
        good(COAST, "oppose 7 6;oppose 6 7;");
        // Others may be alike.
        good(COAST, "weather 3 3;patience 3 3;work 3;needs 0 0;");
        good(YEAR, "ask 3 3;thank 3 3;");
    }

    private void lineWithSuchANumber() {
        edges.terms(1, "a line with such a NUMBER tells its CHILD, DEED, FACT all the same);");
        // So the seventh is one too many, but the number is ahead of it.
        fault(COAST, "child 0 1 8;" + Kit.times(6, "child 0 1 2;"), 2, 10);
        fault(YEAR, "come 8;" + Kit.times(40, "day;"), 2, 5);
        fault(LOG, "deaf 8;" + Kit.times(8, "deaf 0;"), 2, 5);
        fault(COAST, Kit.times(6, "child 0 1 2;") + "child 0 0 0;", 3, 72);
        fault(YEAR, Kit.times(40, "day;") + "come 8;", 3, 160);
    }

    private void faultThree() {
        edges.terms(1, "3 a 7th CHILD, a 7th WORK, a 41st DEED, a 9th FACT, at its first token.");
        String[] lines = {"child 0 1 2;", "work 1;", "day;", "heard 0;"};
        int[] sorts = {COAST, COAST, YEAR, LOG};
        int[] most = {6, 6, 40, 8};
        for (int i = 0; i < 4; i++) {
            String full = Kit.times(most[i], lines[i]);
            good(sorts[i], full);
            fault(sorts[i], full + lines[i], 3, full.length());
            fault(sorts[i], full + " \n" + lines[i] + lines[i], 3, full.length() + 2);
        }
        good(COAST, Kit.times(6, "child 0 1 2;") + SIX_WORKS + "weather 0 1;patience 0 1;oppose 0 1;needs 5 0;");
    }

    private void faultFour() {
        edges.terms(1, "If there is none of these, at the end's place, of a COAST: 4 a WORK that was told of (by needs) and is not there.");
        fault(COAST, "needs 0 0;", 4, 10);
        fault(COAST, "needs 0 0;\n ", 4, 12);
        good(COAST, "needs 0 0;work 1;");
        fault(COAST, "work 1;needs 1 0;", 4, 17);
        good(COAST, "work 1;needs 0 0;");
        fault(COAST, Kit.times(5, "work 1;") + "needs 5 0;", 4, 45);
        good(COAST, SIX_WORKS + "needs 5 0;");
        fault(COAST, "work 1;needs 1 0;needs 0 0;", 4, 27);
        fault(COAST, "needs 5 0;needs 0 0;work 1;", 4, 27);
        fault(COAST, "needs 0 0;" + Kit.times(590, " "), 4, 600);
        fault(COAST, "needs 0 0;weather 8 0;", 2, 18);
        fault(COAST, "needs 5 0;" + Kit.times(7, "child 0 1 2;"), 3, 82);
        good(YEAR, "do 5;ask 5 0;");
    }

    private void atMostTwo() {
        edges.terms(1, "COASTS, at most 2 (sort 0), YEARS, at most 2 (1), LOGS, at most 2 (2), from 0 on.");
        String[] texts = {"work 1;", "day;", "deaf 0;"};
        for (int sort = 0; sort < 3; sort++) {
            GodWeathers x = new GodWeathers();
            edges.due("the first", Kit.tell(x, sort, texts[sort]), 0);
            edges.due("the second", Kit.tell(x, sort, texts[sort]), 1);
            edges.due("a third", Kit.tell(x, sort, texts[sort]), -2);
            edges.due("two of sort " + sort, x.count(sort), 2);
            edges.due("none of another", x.count((sort + 1) % 3), 0);
            edges.due("one of another", Kit.tell(x, (sort + 1) % 3, texts[(sort + 1) % 3]), 0);
        }
    }

    private void coastNoneSuch() {
        edges.promise(6, "NONE: there is none such (of any), or for another what.");
        edges.onlyCoasts("children", -1, (x, at) -> x.coast(at, 0));
        edges.onlyCoasts("works", -1, (x, at) -> x.coast(at, 1));
        GodWeathers x = Kit.coast(Examples.coastOf(6, 6));
        edges.only("numbers", x, 0, 1, -1, (y, what) -> y.coast(0, what));
        edges.only("chance", x, 10, 17, -1, (y, what) -> y.coast(0, what));
        edges.only("patience", x, 20, 27, -1, (y, what) -> y.coast(0, what));
        edges.only("oppose", x, 30, 37, -1, (y, what) -> y.coast(0, what));
        edges.onlyChildren("godparents", -1, (y, c) -> Math.abs((long) c) < 10 ? y.coast(0, 40 + c) : -1);
        edges.onlyWorks("worth", -1, (y, k) -> Math.abs((long) k) < 10 ? y.coast(0, 50 + k) : -1);
        edges.onlyWorks("needs", -1, (y, k) -> Math.abs((long) k) < 10 ? y.coast(0, 60 + k) : -1);
        edges.due("40 behind the 4", x.coast(0, 70), -1);
        edges.due("410", x.coast(0, 410), -1);
    }
}
