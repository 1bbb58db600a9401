import java.lang.reflect.Method;
import java.util.ArrayList;
import java.util.Arrays;
import java.util.List;
import java.util.Set;
import java.util.TreeSet;
import java.util.function.Predicate;

/**
 * Every argument of every call that asks, over all values near its bounds, where nothing else refuses: those that may be
 * have an answer, all others are refused, and behind that all is as it was.
 */
final class BoundsTest {
    private static final Kit KIT = new Kit("BoundsTest");
    private static final int CHUNK = 100;
    private static final int[] VALUES = values();
    private static final Set<String> ASKED = new TreeSet<>();

    /** A call by its name, what it answers where it refuses, arguments that may be, and which may be. */
    private record Row(String name, long refusal, int[] base, Predicate<int[]> may) {
    }

    public static void main(String[] args) throws ReflectiveOperationException {
        for (Row row : rows()) {
            ASKED.add(row.name);
            for (int i = 0; i < row.base.length; i++) {
                for (int from = 0; from < VALUES.length; from += CHUNK) {
                    goThrough(row, i, Arrays.copyOfRange(VALUES, from, Math.min(VALUES.length, from + CHUNK)));
                }
            }
        }
        KIT.due("calls that ask", ASKED.size(), 38);
        KIT.finish();
    }

    private static int[] values() {
        Set<Integer> values = new TreeSet<>();
        int[] around = {Integer.MIN_VALUE + 2, -65536, -256, -128, 0, 100, 128, 255, 512, 600, 1000, 65536, 1 << 24, 1 << 30,
            Integer.MAX_VALUE - 2};
        for (int middle : around) {
            for (int n = middle - 2; n != middle + 3; n++) {
                values.add(n);
            }
        }
        for (int n = -12; n <= 160; n++) {
            values.add(n);
        }
        return values.stream().mapToInt(Integer::intValue).toArray();
    }

    private static boolean in(int n, int low, int high) {
        return n >= low && n <= high;
    }

    private static boolean two(int n) {
        return in(n, 0, 1);
    }

    private static boolean six(int n) {
        return in(n, 0, 5);
    }

    private static boolean ofCoast(int what) {
        return two(what) || in(what, 10, 17) || in(what, 20, 27) || in(what, 30, 37) || in(what, 40, 45) || in(what, 50, 55)
            || in(what, 60, 65);
    }

    private static boolean ofState(int what) {
        int[] godparents = {7, 56, 193, 74, 148, 224};
        return six(what) || in(what, 10, 15)
            || in(what, 100, 147) && (godparents[(what - 100) / 8] >> (what - 100) % 8 & 1) != 0;
    }

    private static List<Row> rows() {
        List<Row> rows = new ArrayList<>();
        rows.add(new Row("fault", -1, new int[] {0}, a -> two(a[0])));
        rows.add(new Row("count", -2, new int[] {0}, a -> in(a[0], 0, 2)));
        rows.add(new Row("coast", -1, new int[] {1, 0}, a -> two(a[0]) && ofCoast(a[1])));
        rows.add(new Row("deed", -2, new int[] {1, 39, 2}, a -> two(a[0]) && in(a[1], 0, 39) && in(a[2], 0, 2)));
        rows.add(new Row("deed", -2, new int[] {0, -1, 0}, a -> two(a[0]) && in(a[1], -1, 39) && in(a[2], 0, a[1] < 0 ? 0 : 2)));
        rows.add(new Row("fact", -2, new int[] {1, 7, 1}, a -> two(a[0]) && in(a[1], 0, 7) && two(a[2])));
        rows.add(new Row("fact", -2, new int[] {0, -1, 0}, a -> two(a[0]) && in(a[1], -1, 7) && in(a[2], 0, a[1] < 0 ? 0 : 1)));
        rows.add(new Row("fits", -2, new int[] {1, 0}, a -> two(a[0]) && (in(a[1], 0, 2) || in(a[1], 10, 30))));
        rows.add(new Row("share", -1, new int[] {1, 7}, a -> two(a[0]) && in(a[1], 0, 7)));
        rows.add(new Row("waits", -1, new int[] {5, 5, 5, 0},
            a -> in(a[0], 0, 10) && in(a[1], 0, 20) && in(a[2], 1, 9) && in(a[3], 0, 2)));
        rows.addAll(rowsOfYears());
        rows.addAll(rowsOfCoasts());
        rows.addAll(rowsOfWorks());
        return rows;
    }

    private static List<Row> rowsOfYears() {
        return List.of(
            new Row("till", -1, new int[] {1, 1}, a -> two(a[0]) && two(a[1])),
            new Row("whose", -1, new int[] {1, 1}, a -> two(a[0]) && two(a[1])),
            new Row("after", -2, new int[] {1, 1, 0}, a -> two(a[0]) && two(a[1]) && six(a[2])),
            new Row("state", -1, new int[] {1, 1, 40, 0}, a -> two(a[0]) && two(a[1]) && in(a[2], 0, 40) && ofState(a[3])),
            new Row("drawn", -1, new int[] {1, 7, 60, 0}, a -> two(a[0]) && in(a[2], 0, 60) && ofState(a[3])));
    }

    private static List<Row> rowsOfCoasts() {
        Predicate<int[]> coast = a -> two(a[0]);
        return List.of(
            new Row("village", -1, new int[] {1}, coast),
            new Row("lone", -2, new int[] {1}, coast),
            new Row("heir", -1, new int[] {1}, coast),
            new Row("plan", -1, new int[] {1}, coast),
            new Row("pair", -1, new int[] {1}, coast),
            new Row("boats", -1, new int[] {1, 6}, coast.and(a -> in(a[1], 1, 6))),
            new Row("headland", -2, new int[] {1, 1}, coast.and(a -> in(a[1], 0, 3))),
            new Row("kin", -1, new int[] {1, 5, 5}, coast.and(a -> six(a[1]) && six(a[2]))),
            new Row("clan", -2, new int[] {1, 0}, coast.and(a -> in(a[1], 0, 7) || in(a[1], 10, 15))),
            new Row("near", -1, new int[] {1, 0}, coast.and(a -> in(a[1], 0, 255))),
            new Row("ladder", -1, new int[] {1, 0}, coast.and(a -> in(a[1], -1, 7))),
            new Row("storm", -1, new int[] {1, 0}, coast.and(a -> in(a[1], 0, 8))),
            new Row("feast", -1, new int[] {1, -1}, coast.and(a -> in(a[1], -1, 5))),
            new Row("busy", -1, new int[] {1, 5}, coast.and(a -> in(a[1], -1, 5))),
            new Row("seat", -1, new int[] {1, 6, 5}, coast.and(a -> in(a[1], 1, 6) && six(a[2]))),
            new Row("first", -1, new int[] {1, 5}, coast.and(a -> six(a[1]))),
            new Row("kept", -1, new int[] {1, 5, 99}, coast.and(a -> six(a[1]) && in(a[2], 1, 99))));
    }

    private static List<Row> rowsOfWorks() {
        Predicate<int[]> work = a -> two(a[0]) && six(a[1]);
        return List.of(
            new Row("call", -1, new int[] {1, 5, -1}, work.and(a -> in(a[2], -1, 0))),
            new Row("odds", -1, new int[] {1, 5, 255}, work.and(a -> in(a[2], 0, 255))),
            new Row("lack", -1, new int[] {1, 5}, work),
            new Row("lots", -1, new int[] {1, 5}, work),
            new Row("hope", -1, new int[] {1, 5}, work),
            new Row("levy", -1, new int[] {1, 6}, a -> two(a[0]) && in(a[1], 0, 6)),
            new Row("ready", -1, new int[] {1, 0}, a -> two(a[0]) && in(a[1], 0, 255)),
            new Row("tide", -1, new int[] {1, 99}, a -> two(a[0]) && in(a[1], 0, 99)));
    }

    private static Method method(String name) {
        for (Method m : GodWeathers.class.getMethods()) {
            if (m.getName().equals(name)) {
                return m;
            }
        }
        throw new IllegalArgumentException(name);
    }

    private static long answer(GodWeathers x, Method method, int[] numbers, boolean flag) throws ReflectiveOperationException {
        Object[] args = new Object[method.getParameterCount()];
        for (int i = 0; i < args.length; i++) {
            args[i] = i < numbers.length ? (Object) numbers[i] : (Object) flag;
        }
        return ((Number) method.invoke(x, args)).longValue();
    }

    private static void goThrough(Row row, int i, int[] values) throws ReflectiveOperationException {
        Method method = method(row.name);
        boolean hasFlag = method.getParameterCount() > row.base.length;
        GodWeathers x = prepared();
        for (int flag = 0; flag < (hasFlag ? 2 : 1); flag++) {
            for (int value : values) {
                int[] numbers = row.base.clone();
                numbers[i] = value;
                String call = row.name + Arrays.toString(numbers) + (hasFlag ? flag == 1 : "");
                long got = answer(x, method, numbers, flag == 1);
                KIT.due(call + " refuses, answering " + got, got == row.refusal, !row.may.test(numbers));
            }
        }
        KIT.due("all is as it was behind " + row.name + ", argument " + i, asItIs(x).equals(asItIs(prepared())), true);
    }

    /** Two of each sort as full as may be, a fault, some of a tape, and an image of other things. */
    private static GodWeathers prepared() {
        GodWeathers x = new GodWeathers();
        Kit.tell(x, 2, "heard 5;");
        x.image(1);
        Kit.tell(x, 2, 0, Examples.FULL_LOG);
        Kit.tell(x, 2, Examples.FULL_LOG);
        for (int n = 0; n < 2; n++) {
            Kit.tell(x, 0, Examples.coastOf(6, 6));
            Kit.tell(x, 1, Examples.FULL_YEAR);
        }
        Kit.tell(x, 0, 0, "work 21;");
        Kit.type(x, "heard 6;");
        return x;
    }

    /** All that can be seen of what was told, the tape at last, which that takes. */
    private static List<Integer> asItIs(GodWeathers x) {
        List<Integer> seen = new ArrayList<>();
        seen.add(x.fault(0));
        seen.add(x.fault(1));
        for (int at = 0; at < 2; at++) {
            for (int what = 0; what < 70; what++) {
                seen.add(x.coast(at, what));
            }
            for (int k = 0; k < 40; k++) {
                seen.add(x.deed(at, k, k % 3));
            }
            for (int k = 0; k < 8; k++) {
                seen.add(x.fact(at, k, 1));
            }
        }
        seen.add(x.end(9));
        seen.add(x.text(2, 0));
        seen.add(x.fact(0, 0, 1));
        for (int k = 0; k < 3; k++) {
            seen.add(x.again(k) ? 1 : 0);
            for (int sort = 0; sort < 3; sort++) {
                seen.add(x.count(sort));
            }
            seen.add(x.fact(0, 0, 1));
        }
        return seen;
    }
}
