import java.lang.management.ManagementFactory;

/** All calls of a run live in one room: a new object is small, and no call makes anything but an image's first. */
final class RoomTest {
    private static final Kit KIT = new Kit("RoomTest");
    private static final com.sun.management.ThreadMXBean BEAN =
        (com.sun.management.ThreadMXBean) ManagementFactory.getThreadMXBean();

    public static void main(String[] args) {
        // The first round warms up, as what the machine loads then is not the class's own.
        measure(false);
        measure(true);
        KIT.finish();
    }

    private static long made() {
        return BEAN.getThreadAllocatedBytes(Thread.currentThread().getId());
    }

    private static void measure(boolean judged) {
        long before = made();
        GodWeathers x = new GodWeathers();
        long object = made() - before;
        prepare(x);
        before = made();
        long sum = 0;
        for (int round = 0; round < 8; round++) {
            sum += askAll(x, round % 2);
        }
        long calls = made() - before;
        if (judged) {
            KIT.due("a new object of " + object + " bytes is small", object < 24000, true);
            KIT.due("the calls made " + calls + " bytes, few", calls < 4000, true);
            KIT.due("and answered", sum != 0, true);
        }
    }

    private static void prepare(GodWeathers x) {
        String coast = Examples.TWO_CLANS + Kit.times(6, "work 9;") + "needs 0 1;needs 1 4;needs 2 7;needs 3 3;needs 4 0;"
            + "oppose 0 1;oppose 1 2;oppose 2 3;oppose 4 5;oppose 5 7;";
        Kit.tell(x, 0, coast);
        Kit.tell(x, 0, Examples.COAST);
        Kit.tell(x, 1, Kit.times(36, "day;"));
        Kit.tell(x, 2, Examples.LOG);
        x.image(0);
        x.image(1);
        x.image(2);
    }

    private static long askAll(GodWeathers x, int c) {
        long sum = x.feed(0x776f726b, 0x2031323b, 0x776f726b, 0x20333b20, 0x200a2020) + x.end(8) + x.text(0, 1);
        sum += x.coast(c, 0) + x.till(c, 0) + x.state(c, 0, 30, 4) + x.call(c, 0, -1) + x.feast(c, 0) + x.odds(c, 0, 0, true);
        sum += x.village(c, true) + x.boats(c, 3) + x.headland(c, 3, true) + x.waits(3, 4, 5, 0) + x.fits(0, 2) + x.whose(c, 0);
        sum += x.drawn(c, 77, 60, 0) + x.clan(c, 0) + x.clan(c, 4) + x.clan(c, 7) + x.lone(c, false) + x.near(c, 7);
        sum += x.ladder(c, 0) + x.storm(c, 3, false) + x.lack(c, 0) + x.busy(c, 0) + x.lots(c, 0, true) + x.heir(c, false);
        sum += x.plan(c, false) + x.levy(c, 1) + x.ready(c, 7) + x.hope(c, 0, true) + x.pair(c, true) + x.seat(c, 2, 0);
        sum += x.tide(c, 9, true) + x.first(c, 0, true) + x.kept(c, 0, 50) + x.after(c, 0, 0) + x.share(0, 0, true);
        x.image(0);
        x.again(1);
        return sum;
    }
}
