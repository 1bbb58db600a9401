import java.lang.reflect.InvocationTargetException;
import java.lang.reflect.Method;
import java.util.ArrayList;
import java.util.Arrays;
import java.util.Comparator;
import java.util.List;
import java.util.Random;

/** Any calls with any arguments: none throws, none that only asks changes anything, the same calls answer the same. */
final class AnyCallsTest {
    private static final Kit KIT = new Kit("AnyCallsTest");
    private static final List<String> CHANGING = List.of("feed", "end", "text", "image", "again");
    private static final int[] ODD = {Integer.MIN_VALUE, Integer.MIN_VALUE + 1, -101, -10, -3, -2, -1, 0, 1, 2, 3, 4, 5, 6, 7,
        8, 9, 10, 11, 16, 17, 20, 27, 28, 31, 32, 33, 37, 40, 46, 50, 56, 60, 61, 63, 64, 65, 66, 99, 100, 101, 107, 147,
        148, 254, 255, 256, 599, 600, 601, 65536, Integer.MAX_VALUE - 1, Integer.MAX_VALUE};
    private static final String[] LINES = {"child 0 1 2;", "child 5 6 7;", "child 1 3 5;", "child 7 0 4;", "weather 3 10;",
        "weather 2 0;", "patience 1 1;", "patience 5 9;", "oppose 0 7;", "oppose 1 2;", "oppose 2 5;", "work 20;", "work 0;",
        "work 7;", "needs 0 1;", "needs 1 5;", "needs 2 7;", "needs 5 5;"};
    private static final String[] DEEDS = {"ask 0 0;", "ask 1 5;", "ask 2 7;", "thank 0 1;", "thank 1 6;", "come 3;", "come 7;",
        "do 0;", "do 1;", "day;", "day;", "day;"};
    private static final String[] FACTS = {"heard 0;", "heard 5;", "deaf 1;", "deaf 5;", "deaf 7;"};
    private static final String[] SCRAPS = {"", ";", "child", "12", "123", "\n", "?", "day;", "work 99;", "a", " "};

    private record Call(Method method, Object[] args) {
        long on(GodWeathers x) throws IllegalAccessException, InvocationTargetException {
            Object answer = method.invoke(x, args);
            if (answer instanceof Boolean b) {
                return b ? 1 : 0;
            }
            return ((Number) answer).longValue();
        }

        boolean changes() {
            return CHANGING.contains(method.getName());
        }

        @Override
        public String toString() {
            return method.getName() + Arrays.toString(args);
        }
    }

    public static void main(String[] args) throws ReflectiveOperationException {
        for (int seed = 0; seed < 120; seed++) {
            run(seed);
        }
        KIT.finish();
    }

    private static List<Method> methods() {
        List<Method> methods = new ArrayList<>(List.of(GodWeathers.class.getDeclaredMethods()));
        methods.removeIf(m -> !java.lang.reflect.Modifier.isPublic(m.getModifiers()));
        methods.sort(Comparator.comparing(Method::getName));
        return methods;
    }

    private static void run(int seed) throws ReflectiveOperationException {
        Random chance = new Random(seed);
        List<Method> methods = methods();
        GodWeathers x = new GodWeathers();
        List<Call> changes = new ArrayList<>();
        for (int n = 0; n < 500; n++) {
            Call call;
            if (chance.nextInt(12) == 0) {
                addText(x, changes, chance);
                continue;
            }
            Method method = methods.get(chance.nextInt(methods.size()));
            call = new Call(method, someArguments(method, chance));
            long answer = answer(call, x, seed);
            if (call.changes()) {
                changes.add(call);
            } else if (chance.nextInt(8) == 0) {
                GodWeathers fresh = new GodWeathers();
                for (Call change : changes) {
                    answer(change, fresh, seed);
                }
                KIT.due("run " + seed + ": " + call, answer(call, fresh, seed), answer);
            }
        }
    }

    private static long answer(Call call, GodWeathers x, int seed) throws IllegalAccessException {
        try {
            return call.on(x);
        } catch (InvocationTargetException thrown) {
            KIT.due("run " + seed + ": " + call + " threw " + thrown.getCause(), 1, 0);
            return 0;
        }
    }

    private static Object[] someArguments(Method method, Random chance) {
        Class<?>[] types = method.getParameterTypes();
        Object[] args = new Object[types.length];
        for (int i = 0; i < types.length; i++) {
            if (types[i] == boolean.class) {
                args[i] = chance.nextBoolean();
            } else if (chance.nextInt(3) == 0) {
                args[i] = ODD[chance.nextInt(ODD.length)];
            } else {
                args[i] = chance.nextInt(i == 0 ? 2 : 4) - (i == 0 ? 0 : 1);
            }
        }
        return args;
    }

    private static void addText(GodWeathers x, List<Call> changes, Random chance) throws ReflectiveOperationException {
        int sort = chance.nextInt(3);
        String[] lines = sort == 0 ? LINES : sort == 1 ? DEEDS : FACTS;
        StringBuilder text = new StringBuilder();
        for (int n = chance.nextInt(sort == 0 ? 25 : sort == 1 ? 45 : 6); n > 0; n--) {
            text.append(lines[chance.nextInt(lines.length)]);
        }
        if (sort == 0 && chance.nextInt(4) != 0) {
            text.append("work 1;work 2;work 3;");
        }
        if (chance.nextInt(5) == 0) {
            text.append(SCRAPS[chance.nextInt(SCRAPS.length)]);
        }
        List<Call> calls = new ArrayList<>();
        calls.add(new Call(GodWeathers.class.getMethod("end", int.class), new Object[] {0}));
        Method feed = GodWeathers.class.getMethod("feed", int.class, int.class, int.class, int.class, int.class);
        while (text.length() % 20 != 0) {
            text.append(' ');
        }
        for (int at = 0; at < text.length(); at += 20) {
            Object[] numbers = new Object[5];
            for (int i = 0; i < 5; i++) {
                int number = 0;
                for (int j = 0; j < 4; j++) {
                    number = number << 8 | text.charAt(at + 4 * i + j);
                }
                numbers[i] = number;
            }
            calls.add(new Call(feed, numbers));
        }
        Method read = GodWeathers.class.getMethod("text", int.class, int.class);
        calls.add(new Call(read, new Object[] {sort, chance.nextInt(3) - 1}));
        for (Call call : calls) {
            answer(call, x, 0);
            changes.add(call);
        }
    }
}
