/** Promise 6: what a coast is told to be. */
final class CoastTest {
    private static final Kit KIT = new Kit("CoastTest");

    public static void main(String[] args) {
        atFirst();
        asTold();
        laterLines();
        noneSuch();
        KIT.finish();
    }

    private static void atFirst() {
        GodWeathers x = Kit.coast("");
        KIT.due("children", x.coast(0, 0), 0);
        KIT.due("works", x.coast(0, 1), 0);
        for (int w = 0; w < 8; w++) {
            KIT.due("chance", x.coast(0, 10 + w), 3);
            KIT.due("patience", x.coast(0, 20 + w), 3);
            KIT.due("oppose", x.coast(0, 30 + w), 0);
        }
        for (int k = 0; k < 8; k++) {
            KIT.due("no child", x.coast(0, 40 + k), -1);
            KIT.due("no work", x.coast(0, 50 + k), -1);
            KIT.due("no needs", x.coast(0, 60 + k), -1);
        }
    }

    private static void asTold() {
        GodWeathers x = Kit.coast(Examples.COAST);
        KIT.due("children", x.coast(0, 0), 3);
        KIT.due("works", x.coast(0, 1), 3);
        KIT.due("chance 0", x.coast(0, 10), 5);
        KIT.due("chance 1", x.coast(0, 11), 3);
        KIT.due("chance 3", x.coast(0, 13), 10);
        KIT.due("patience 1", x.coast(0, 21), 1);
        KIT.due("patience 2", x.coast(0, 22), 5);
        KIT.due("patience 7", x.coast(0, 27), 3);
        KIT.due("oppose 0", x.coast(0, 30), Kit.bits(3));
        KIT.due("oppose 1", x.coast(0, 31), Kit.bits(7));
        KIT.due("oppose 2", x.coast(0, 32), 0);
        KIT.due("oppose 3", x.coast(0, 33), Kit.bits(0));
        KIT.due("oppose 7", x.coast(0, 37), Kit.bits(1));
        KIT.due("child 0", x.coast(0, 40), Kit.bits(0, 1, 2));
        KIT.due("child 1", x.coast(0, 41), Kit.bits(1, 3, 4));
        KIT.due("child 2", x.coast(0, 42), Kit.bits(0, 1, 2));
        KIT.due("child 3", x.coast(0, 43), -1);
        KIT.due("worth 0", x.coast(0, 50), 10);
        KIT.due("worth 2", x.coast(0, 52), 4);
        KIT.due("worth 3", x.coast(0, 53), -1);
        KIT.due("needs 0", x.coast(0, 60), Kit.bits(0, 3));
        KIT.due("needs 1", x.coast(0, 61), Kit.bits(1, 2));
        KIT.due("needs 2", x.coast(0, 62), Kit.bits(7));
        KIT.due("needs 3", x.coast(0, 63), -1);
    }

    private static void laterLines() {
        GodWeathers x = Kit.coast("weather 0 5;weather 0 0;patience 7 9;patience 7 2;oppose 0 1;oppose 1 0;oppose 0 2;"
            + "needs 0 1;work 0;needs 0 1;needs 0 2;child 7 0 3;");
        KIT.due("the later chance", x.coast(0, 10), 0);
        KIT.due("the later patience", x.coast(0, 27), 2);
        KIT.due("both that it opposes", x.coast(0, 30), Kit.bits(1, 2));
        KIT.due("both that it needs", x.coast(0, 60), Kit.bits(1, 2));
        KIT.due("worth nothing", x.coast(0, 50), 0);
        KIT.due("godparents", x.coast(0, 40), Kit.bits(0, 3, 7));
        Kit.tell(x, 0, 0, "work 1;");
        KIT.due("told anew: chance", x.coast(0, 10), 3);
        KIT.due("told anew: needs", x.coast(0, 60), 0);
        KIT.due("told anew: children", x.coast(0, 0), 0);
        KIT.due("told anew: patience", x.coast(0, 27), 3);
        for (int w = 0; w < 8; w++) {
            KIT.due("told anew: oppose", x.coast(0, 30 + w), 0);
        }
    }

    private static void noneSuch() {
        GodWeathers x = Kit.coast(Examples.COAST);
        int[] others = {-1, 2, 9, 18, 19, 28, 38, 39, 46, 49, 56, 59, 66, 70, 100, 410, -2147483648, 2147483647};
        for (int what : others) {
            KIT.due("coast(0, " + what + ")", x.coast(0, what), -1);
        }
        KIT.due("coast(1, 0)", x.coast(1, 0), -1);
        KIT.due("coast(-1, 0)", x.coast(-1, 0), -1);
        Kit.tell(x, 0, "child 0 1 2;");
        KIT.due("coast(1, 0)", x.coast(1, 0), 1);
        KIT.due("coast(0, 0)", x.coast(0, 0), 3);
    }
}
