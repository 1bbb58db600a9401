import java.io.IOException;
import java.lang.reflect.Method;
import java.lang.reflect.Modifier;
import java.nio.file.Files;
import java.nio.file.Path;
import java.util.Set;
import java.util.TreeSet;
import java.util.regex.Matcher;
import java.util.regex.Pattern;

/** Every call that README.md shows answers what it says there; every call of the face and every test is named. */
final class ReadmeTest {
    private static final Kit KIT = new Kit("ReadmeTest");
    private static final Pattern SHOWN = Pattern.compile("(?m)^x\\.(\\w+)\\(([^)]*)\\); *// (-?\\d+)(:.*)?$");
    /** What a row of the table says of a call where there is none: its last column's first answer. */
    private static final Pattern ROW = Pattern.compile("(?m)^\\|[^|]*\\| ((?:`\\w+`(?:, )?)+) \\|[^|]*\\| (NONE|-2)");

    public static void main(String[] args) throws IOException, ReflectiveOperationException {
        String page = Files.readString(Path.of("README.md"));
        shownCalls(page);
        refusals(page);
        names(page);
        KIT.finish();
    }

    private static void shownCalls(String page) throws ReflectiveOperationException {
        GodWeathers x = new GodWeathers();
        int shown = 0;
        Matcher line = SHOWN.matcher(page);
        while (line.find()) {
            String[] words = line.group(2).split(", ");
            Method method = method(line.group(1));
            Object[] numbers = new Object[words.length];
            for (int i = 0; i < words.length; i++) {
                numbers[i] = method.getParameterTypes()[i] == boolean.class ? (Object) Boolean.parseBoolean(words[i])
                    : (Object) number(words[i]);
            }
            Number answer = (Number) method.invoke(x, numbers);
            KIT.due(line.group(), answer.longValue(), Long.parseLong(line.group(3)));
            shown++;
        }
        KIT.due("all lines that call are shown calls", shown, Pattern.compile("(?m)^x\\.").matcher(page).results().count());
    }

    private static int number(String word) {
        return word.equals("GodWeathers.NONE") ? GodWeathers.NONE : Integer.decode(word);
    }

    /** On a new object there is nothing that one could ask of. */
    private static void refusals(String page) throws ReflectiveOperationException {
        Set<String> told = new TreeSet<>();
        Matcher row = ROW.matcher(page);
        while (row.find()) {
            for (String name : row.group(1).replace("`", "").split(", ")) {
                Method method = method(name);
                Object[] numbers = new Object[method.getParameterCount()];
                for (int i = 0; i < numbers.length; i++) {
                    numbers[i] = method.getParameterTypes()[i] == boolean.class ? (Object) false : (Object) (-2);
                }
                Number answer = (Number) method.invoke(new GodWeathers(), numbers);
                KIT.due(name + " where there is none", answer.longValue(), row.group(2).equals("NONE") ? -1 : -2);
                KIT.due(name + " stands there once", told.add(name), true);
            }
        }
        KIT.due("calls of the table", told.size(), 37);
    }

    private static void names(String page) throws IOException {
        for (Method method : GodWeathers.class.getDeclaredMethods()) {
            if (Modifier.isPublic(method.getModifiers())) {
                KIT.due(method.getName() + " is named", Pattern.compile("`" + method.getName() + "\\b").matcher(page).find(), true);
            }
        }
        try (var files = Files.newDirectoryStream(Path.of("src/test/java"), "*Test.java")) {
            for (Path file : files) {
                String test = file.getFileName().toString().replace(".java", "");
                KIT.due(test + " is named", page.contains("`" + test + "`"), true);
            }
        }
    }

    private static Method method(String name) {
        for (Method method : GodWeathers.class.getDeclaredMethods()) {
            if (method.getName().equals(name) && Modifier.isPublic(method.getModifiers())) {
                return method;
            }
        }
        throw new IllegalArgumentException("no such call: " + name);
    }
}
