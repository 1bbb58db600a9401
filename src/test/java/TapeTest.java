/** Promises 1 to 5 and 42 to 44: a new object, the tape, texts and their faults, counts, images. */
final class TapeTest {
    private static final Kit KIT = new Kit("TapeTest");

    public static void main(String[] args) {
        newObject();
        feedAndEnd();
        bytesAreHighestFirst();
        whatWasCutOffIsNotRead();
        theTapeIsFull();
        placesOfTexts();
        faultOne();
        faultTwo();
        faultThree();
        faultFour();
        whichFaultComesFirst();
        faultOfTheLatestText();
        images();
        KIT.finish();
    }

    private static void newObject() {
        GodWeathers x = new GodWeathers();
        for (int sort = 0; sort < 3; sort++) {
            KIT.due("count of a new object", x.count(sort), 0);
        }
        KIT.due("count(3)", x.count(3), -2);
        KIT.due("count(-1)", x.count(-1), -2);
        KIT.due("fault(0)", x.fault(0), 0);
        KIT.due("fault(1)", x.fault(1), -1);
        KIT.due("fault(2)", x.fault(2), -1);
        KIT.due("fault(-1)", x.fault(-1), -1);
        for (int k = -1; k < 4; k++) {
            KIT.due("again without images", x.again(k), false);
        }
        KIT.due("end of an empty tape", x.end(0), 0);
        KIT.due("end beyond an empty tape", x.end(1), -1);
        KIT.due("NONE", GodWeathers.NONE, -1);
    }

    private static void feedAndEnd() {
        GodWeathers x = new GodWeathers();
        for (int n = 1; n <= 30; n++) {
            KIT.due("feed", x.feed(0, 0, 0, 0, 0), 20 * n);
        }
        KIT.due("feed beyond 600", x.feed(0, 0, 0, 0, 0), -1);
        KIT.due("end(601)", x.end(601), -1);
        KIT.due("end(600)", x.end(600), 600);
        KIT.due("end(581)", x.end(581), 581);
        KIT.due("feed to 601", x.feed(0, 0, 0, 0, 0), -1);
        KIT.due("nothing came", x.end(582), -1);
        KIT.due("end(580)", x.end(580), 580);
        KIT.due("feed to 600", x.feed(0, 0, 0, 0, 0), 600);
        KIT.due("end(-1)", x.end(-1), -1);
        KIT.due("end(7)", x.end(7), 7);
        KIT.due("end(8)", x.end(8), -1);
        KIT.due("end(0)", x.end(0), 0);
    }

    private static void bytesAreHighestFirst() {
        GodWeathers x = new GodWeathers();
        // "work", " 12;", "work", " 3; ", " \n  "
        x.feed(0x776f726b, 0x2031323b, 0x776f726b, 0x20333b20, 0x200a2020);
        KIT.due("text", x.text(0, -1), 0);
        KIT.due("worth of the first", x.coast(0, 50), 12);
        KIT.due("worth of the second", x.coast(0, 51), 3);
        // A byte above 127 is no letter.
        x.feed(0xf76f726b, 0x2031323b, 0x20202020, 0x20202020, 0x20202020);
        KIT.due("text", x.text(0, -1), -1);
        KIT.due("place", x.fault(1), 0);
    }

    private static void cut(String text, int length, int fault, int place) {
        GodWeathers x = new GodWeathers();
        Kit.type(x, text);
        x.end(length);
        KIT.due(text + " cut to " + length, x.text(0, -1), fault == 0 ? 0 : -1);
        KIT.due(text + " fault", x.fault(0), fault);
        KIT.due(text + " place", x.fault(1), place);
    }

    private static void whatWasCutOffIsNotRead() {
        cut("work 1;works 1;", 11, 1, 11);
        cut("work 123;", 7, 1, 7);
        cut("work 12;#", 8, 0, -1);
        cut("work 12; #", 9, 0, -1);
        cut("work 12;", 7, 1, 7);
        GodWeathers x = new GodWeathers();
        Kit.type(x, "work 1;work 2;work 3;");
        x.end(7);
        Kit.type(x, "work 9;");
        KIT.due("text", x.text(0, -1), 0);
        KIT.due("works", x.coast(0, 1), 2);
        KIT.due("worth", x.coast(0, 51), 9);
    }

    private static void theTapeIsFull() {
        fault(0, Kit.times(600, "a"), 1, 0);
        fault(0, Kit.times(600, "1"), 1, 0);
        fault(0, Kit.times(600, " "), 0, -1);
        fault(0, Kit.times(600, ";"), 1, 0);
        fault(0, Kit.times(594, " ") + "work 1", 1, 600);
        fault(0, Kit.times(593, "\n") + "work 1;", 0, -1);
        fault(0, Kit.times(596, " ") + "work", 1, 600);
    }

    private static void placesOfTexts() {
        for (int sort = 0; sort < 3; sort++) {
            GodWeathers x = new GodWeathers();
            KIT.due("in the place of none", Kit.tell(x, sort, 0, ""), -2);
            KIT.due("a first", Kit.tell(x, sort, -1, ""), 0);
            KIT.due("in the place of one beyond", Kit.tell(x, sort, 1, ""), -2);
            KIT.due("a second", Kit.tell(x, sort, -1, ""), 1);
            KIT.due("a third", Kit.tell(x, sort, -1, ""), -2);
            KIT.due("in place 1", Kit.tell(x, sort, 1, ""), 1);
            KIT.due("in place 0", Kit.tell(x, sort, 0, ""), 0);
            KIT.due("in place 2", Kit.tell(x, sort, 2, ""), -2);
            KIT.due("in place -2", Kit.tell(x, sort, -2, ""), -2);
            KIT.due("count", x.count(sort), 2);
            KIT.due("count of another", x.count((sort + 1) % 3), 0);
        }
        GodWeathers x = new GodWeathers();
        refused(x, 3, -1);
        refused(x, -1, -1);
        refused(x, 2147483647, 0);
        refused(x, 0, 0);
        refused(x, 0, -2);
        KIT.due("no text was read", x.count(0), 0);
        Kit.type(x, "work 1;");
        KIT.due("text", x.text(0, -1), 0);
        KIT.due("the tape was taken", x.end(1), -1);
        refused(x, 0, 1);
        KIT.due("a second", Kit.tell(x, 0, "work 9;"), 1);
        refused(x, 0, -1);
        KIT.due("the first stays", x.coast(0, 50), 1);
        KIT.due("the second stays", x.coast(1, 50), 9);
        Kit.tell(x, 0, 0, "work 2;work 3;");
        KIT.due("the place of one is told anew", x.coast(0, 1), 2);
        KIT.due("its worth", x.coast(0, 50), 2);
        KIT.due("a fault", Kit.tell(x, 0, 0, "work 4;work"), -1);
        KIT.due("the tape was taken, too", x.end(1), -1);
        KIT.due("but the coast stays", x.coast(0, 50), 2);
        KIT.due("and no further one came", x.count(0), 2);
    }

    /** A call of text() that answers -2: it takes the tape, and the fault of an earlier text is gone. */
    private static void refused(GodWeathers x, int sort, int at) {
        KIT.due("a fault ahead", Kit.tell(x, 2, -1, "deaf"), -1);
        Kit.type(x, "work 1;");
        KIT.due("text(" + sort + ", " + at + ")", x.text(sort, at), -2);
        KIT.due("no fault", x.fault(0), 0);
        KIT.due("no place", x.fault(1), -1);
        KIT.due("the tape is empty", x.end(1), -1);
        KIT.due("what comes is the first", x.feed(0, 0, 0, 0, 0), 20);
        x.end(0);
    }

    private static void fault(int sort, String text, int fault, int place) {
        GodWeathers x = new GodWeathers();
        KIT.due("text of " + text, Kit.tell(x, sort, text), fault == 0 ? 0 : -1);
        KIT.due("fault of " + text, x.fault(0), fault);
        KIT.due("place of " + text, x.fault(1), place);
        KIT.due("count behind " + text, x.count(sort), fault == 0 ? 1 : 0);
    }

    private static void faultOne() {
        fault(0, "", 0, -1);
        fault(0, " \n ", 0, -1);
        fault(0, "child0 1 2;", 0, -1);
        fault(0, "child\n0\n01 02 ; work 5;work 20;", 0, -1);
        fault(0, "child 0 1 2", 1, 11);
        fault(0, "child 0 1 2  ", 1, 13);
        fault(0, "child 0 1;", 1, 9);
        fault(0, "child 0 1 2 3;", 1, 12);
        fault(0, "child 001 1 2;", 1, 6);
        fault(0, "work 123;", 1, 5);
        fault(0, "work 12 3;", 1, 8);
        fault(0, ";", 1, 0);
        fault(0, "work 1;;", 1, 7);
        fault(0, " Work 1;", 1, 1);
        fault(0, "works 1;", 1, 0);
        fault(0, "dork 1;", 1, 0);
        fault(0, "workz 1;", 1, 0);
        fault(0, "zwork 1;", 1, 0);
        fault(0, "work` 1;", 1, 4);
        fault(0, "work{ 1;", 1, 4);
        fault(0, "work 1/;", 1, 6);
        fault(0, "work 1:;", 1, 6);
        fault(0, "wor k 1;", 1, 0);
        fault(0, "work\t1;", 1, 4);
        fault(0, "work 1#;", 1, 6);
        fault(0, "work 1a;", 1, 6);
        fault(0, "work -1;", 1, 5);
        fault(0, "ask 0 0;", 1, 0);
        fault(0, "work 1;day;", 1, 7);
        fault(0, "work 1; 12;", 1, 8);
        fault(1, "work 1;", 1, 0);
        fault(1, "day 1;", 1, 4);
        fault(1, "day", 1, 3);
        fault(1, "thank 0;", 1, 7);
        fault(1, "come 0 0;", 1, 7);
        fault(1, "day;ask0 0;thank5 7;come7;do5;", 0, -1);
        fault(2, "day;", 1, 0);
        fault(2, "deaf;", 1, 4);
        fault(2, "heard 1;deaf 3;", 0, -1);
        fault(2, "heard 1 2;", 1, 8);
    }

    private static void faultTwo() {
        fault(0, "child 0 0 1;", 2, 8);
        fault(0, "child 0 1 0;", 2, 10);
        fault(0, "child 0 1 1;", 2, 10);
        fault(0, "child 8 0 1;", 2, 6);
        fault(0, "child 0 1 8;", 2, 10);
        fault(0, "child 0 8 1;", 2, 8);
        fault(0, "child 8 8 8;", 2, 6);
        fault(0, "weather 0 10;", 0, -1);
        fault(0, "weather 0 11;", 2, 10);
        fault(0, "weather 8 1;", 2, 8);
        fault(0, "weather 1 1;weather 1 0;", 0, -1);
        fault(0, "patience 0 0;", 2, 11);
        fault(0, "patience 0 10;", 2, 11);
        fault(0, "patience 8 1;", 2, 9);
        fault(0, "patience 7 9;patience 7 1;", 0, -1);
        fault(0, "oppose 1 1;", 2, 9);
        fault(0, "oppose 8 1;", 2, 7);
        fault(0, "oppose 1 8;", 2, 9);
        fault(0, "work 21;", 2, 5);
        fault(0, "needs 6 0;", 2, 6);
        fault(0, "work 1;needs 0 8;", 2, 15);
        fault(1, "ask 6 0;", 2, 4);
        fault(1, "ask 0 8;", 2, 6);
        fault(1, "thank 6 8;", 2, 6);
        fault(1, "thank 5 8;", 2, 8);
        fault(1, "come 8;", 2, 5);
        fault(1, "do 6;", 2, 3);
        fault(2, "heard 8;", 2, 6);
        fault(2, "deaf 8;", 2, 5);
        fault(2, "deaf 0;deaf 99;", 2, 12);
    }

    private static void faultThree() {
        fault(0, Kit.times(6, "child 0 1 2;"), 0, -1);
        fault(0, Kit.times(7, "child 0 1 2;"), 3, 72);
        fault(0, Kit.times(8, "child 0 1 2;"), 3, 72);
        fault(0, Kit.times(6, "work 1;"), 0, -1);
        fault(0, Kit.times(6, "work 1;") + " work 1;", 3, 43);
        fault(0, Kit.times(20, "oppose 0 1;weather 1 1;"), 0, -1);
        fault(1, Kit.times(40, "day;"), 0, -1);
        fault(1, Kit.times(41, "day;"), 3, 160);
        fault(2, Kit.times(8, "deaf 0;"), 0, -1);
        fault(2, Kit.times(9, "deaf 0;"), 3, 56);
        fault(2, Kit.times(9, "heard 0;"), 3, 64);
        String[] deeds = {"ask 0 0;", "thank 0 0;", "come 0;", "do 0;"};
        for (String deed : deeds) {
            fault(1, Kit.times(40, deed), 0, -1);
            fault(1, Kit.times(41, deed), 3, 40 * deed.length());
        }
    }

    private static void faultFour() {
        fault(0, "needs 0 0;", 4, 10);
        fault(0, "needs 0 0;  ", 4, 12);
        fault(0, "needs 0 0;work 1;", 0, -1);
        fault(0, "work 1;needs 1 0;", 4, 17);
        fault(0, "needs 5 0;" + Kit.times(5, "work 1;"), 4, 45);
        fault(0, "needs 5 0;" + Kit.times(6, "work 1;"), 0, -1);
    }

    private static void whichFaultComesFirst() {
        fault(0, "child 8 0 1;work", 1, 16);
        fault(0, "needs 0 0;work 21;", 2, 15);
        fault(0, Kit.times(7, "work 1;") + "work 21;", 3, 42);
        fault(0, "work 21;" + Kit.times(6, "work 1;"), 2, 5);
        fault(0, Kit.times(6, "work 1;") + "work 21;", 3, 42);
        fault(0, Kit.times(7, "work 1;") + "?", 1, 49);
        fault(2, Kit.times(8, "deaf 0;") + "deaf 8;", 3, 56);
        fault(2, "heard 8;" + Kit.times(8, "deaf 0;"), 2, 6);
    }

    private static void faultOfTheLatestText() {
        GodWeathers x = new GodWeathers();
        Kit.tell(x, 0, "work 21;");
        KIT.due("fault", x.fault(0), 2);
        KIT.due("place", x.fault(1), 5);
        Kit.type(x, "deaf 0;");
        x.count(0);
        KIT.due("fault stays", x.fault(0), 2);
        x.text(3, 0);
        KIT.due("no text read: fault", x.fault(0), 0);
        KIT.due("no text read: place", x.fault(1), -1);
        KIT.due("the tape was taken: a text of nothing", x.text(2, -1), 0);
        KIT.due("it has no fact", x.fact(0, -1, 0), 0);
        Kit.tell(x, 0, "work");
        KIT.due("fault", x.fault(0), 1);
        Kit.tell(x, 0, "work 1;");
        KIT.due("without", x.fault(0), 0);
        KIT.due("without", x.fault(1), -1);
    }

    private static void images() {
        GodWeathers x = new GodWeathers();
        KIT.due("image(3)", x.image(3), false);
        KIT.due("image(-1)", x.image(-1), false);
        KIT.due("image(0)", x.image(0), true);
        Kit.tell(x, 0, "work 7;child 0 1 2;weather 3 9;patience 4 8;oppose 5 6;needs 0 2;");
        Kit.tell(x, 1, "ask 0 1;day;");
        Kit.tell(x, 2, "heard 4;");
        Kit.tell(x, 2, "heard 9;");
        Kit.type(x, "work 3;");
        KIT.due("image(1)", x.image(1), true);
        KIT.due("again(2)", x.again(2), false);
        KIT.due("again(0)", x.again(0), true);
        KIT.due("no coasts", x.count(0), 0);
        KIT.due("no years", x.count(1), 0);
        KIT.due("no logs", x.count(2), 0);
        KIT.due("no tape", x.end(1), -1);
        KIT.due("no fault", x.fault(0), 0);
        Kit.tell(x, 0, "work 9;work 9;oppose 1 2;");
        Kit.tell(x, 1, "come 1;come 2;come 3;");
        Kit.tell(x, 2, "deaf 1;deaf 2;");
        Kit.type(x, "nothing at all, which is longer than the tape was");
        KIT.due("again(1)", x.again(1), true);
        imageOneStands(x);
        Kit.tell(x, 0, 0, "");
        Kit.tell(x, 1, 0, "");
        Kit.tell(x, 2, 0, "");
        KIT.due("again(1), anew", x.again(1), true);
        imageOneStands(x);
        KIT.due("image(1) in its place", x.image(1), true);
        x.again(0);
        x.again(1);
        KIT.due("text from the new image", x.count(0), 2);
    }

    private static void imageOneStands(GodWeathers x) {
        KIT.due("fault", x.fault(0), 2);
        KIT.due("place", x.fault(1), 6);
        KIT.due("worth", x.coast(0, 50), 7);
        KIT.due("needs", x.coast(0, 60), 4);
        KIT.due("works", x.coast(0, 1), 1);
        KIT.due("child", x.coast(0, 40), 7);
        KIT.due("chance", x.coast(0, 13), 9);
        KIT.due("patience", x.coast(0, 24), 8);
        KIT.due("oppose", x.coast(0, 35), 64);
        KIT.due("oppose", x.coast(0, 31), 0);
        KIT.due("deeds", x.deed(0, -1, 0), 2);
        KIT.due("deed", x.deed(0, 0, 2), 1);
        KIT.due("facts", x.fact(0, -1, 0), 1);
        KIT.due("fact", x.fact(0, 0, 1), 4);
        KIT.due("the tape", x.end(8), -1);
        KIT.due("as a text", x.text(0, -1), 1);
        KIT.due("its worth", x.coast(1, 50), 3);
    }
}
