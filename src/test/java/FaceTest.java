import java.io.IOException;
import java.lang.reflect.Constructor;
import java.lang.reflect.Field;
import java.lang.reflect.Method;
import java.lang.reflect.Modifier;
import java.nio.file.Files;
import java.nio.file.Path;
import java.util.Set;
import java.util.TreeSet;
import java.util.regex.Matcher;
import java.util.regex.Pattern;

/** The public face as the document has it, and of LANGUAGE.md's rules what can be told from the text alone. */
final class FaceTest {
    private static final Kit KIT = new Kit("FaceTest");
    private static final Path SOURCE = Path.of("src/main/java/GodWeathers.java");
    private static final Path DOCUMENT = Path.of("../shared/DOC.md");

    public static void main(String[] args) throws IOException {
        publicMethods();
        otherMembers();
        forbiddenWords();
        noPrivateNamesake();
        shortMethods();
        KIT.finish();
    }

    private static void publicMethods() throws IOException {
        Set<String> due = new TreeSet<>();
        String document = Files.readString(DOCUMENT);
        Matcher line = Pattern.compile("(?m)^    public (int|long|boolean) (\\w+)\\(([^)]*)\\);").matcher(document);
        while (line.find()) {
            due.add(line.group(1) + " " + line.group(2) + "(" + line.group(3).replaceAll(" \\w+(,|$)", "$1") + ")");
        }
        Set<String> got = new TreeSet<>();
        for (Method m : GodWeathers.class.getDeclaredMethods()) {
            if (!Modifier.isPrivate(m.getModifiers())) {
                StringBuilder types = new StringBuilder();
                for (Class<?> type : m.getParameterTypes()) {
                    types.append(types.length() > 0 ? ", " : "").append(type.getName());
                }
                got.add(m.getReturnType().getName() + " " + m.getName() + "(" + types + ")");
                KIT.due(m + " is public, of objects", Modifier.isPublic(m.getModifiers()) && !Modifier.isStatic(m.getModifiers()),
                    true);
            }
        }
        KIT.due("43 methods", due.size(), 43);
        KIT.due("the document's " + due + " are " + got, due.equals(got), true);
    }

    private static void otherMembers() {
        int flags = GodWeathers.class.getModifiers();
        KIT.due("public and final", Modifier.isPublic(flags) && Modifier.isFinal(flags), true);
        Constructor<?>[] makers = GodWeathers.class.getDeclaredConstructors();
        KIT.due("one constructor", makers.length, 1);
        KIT.due("public, without arguments", Modifier.isPublic(makers[0].getModifiers()) && makers[0].getParameterCount() == 0,
            true);
        for (Field f : GodWeathers.class.getDeclaredFields()) {
            KIT.due(f + " is private", Modifier.isPrivate(f.getModifiers()), !f.getName().equals("NONE"));
            KIT.due(f + " is final", Modifier.isFinal(f.getModifiers()), true);
        }
        Class<?>[] inside = GodWeathers.class.getDeclaredClasses();
        KIT.due("at most some twelve classes", inside.length < 12, true);
        for (Class<?> c : inside) {
            KIT.due(c + " is static", Modifier.isStatic(c.getModifiers()), true);
            KIT.due(c + " is private", Modifier.isPrivate(c.getModifiers()), true);
            int fields = 0;
            for (Field f : c.getDeclaredFields()) {
                fields += Modifier.isStatic(f.getModifiers()) ? 0 : 1;
                KIT.due(f + " changes nothing static", !Modifier.isStatic(f.getModifiers()) || Modifier.isFinal(f.getModifiers()),
                    true);
            }
            KIT.due(c + " has at most twenty fields", fields <= 20, true);
            for (Method m : c.getDeclaredMethods()) {
                KIT.due(m + " takes at most seven", m.getParameterCount() <= 7, true);
            }
        }
    }

    /** The source without its comments and the texts in quotes. */
    private static String code() throws IOException {
        return Files.readString(SOURCE).replaceAll("(?s)/\\*.*?\\*/", "").replaceAll("//[^\n]*", "")
            .replaceAll("\"[^\"]*\"", "\"\"");
    }

    private static void forbiddenWords() throws IOException {
        String code = code();
        String[] words = {"throw", "throws", "try", "catch", "synchronized", "assert", "package", "protected", "hashCode",
            "toString", "native", "volatile", "System\\.(?!arraycopy)\\w+", "\\w+Exact", "Object", "var", "new String",
            "double", "float"};
        for (String word : words) {
            KIT.due("uses " + word, Pattern.compile("\\b" + word + "\\b").matcher(code).find(), false);
        }
        KIT.due("uses ->", code.contains("->"), false);
        KIT.due("uses ::", code.contains("::"), false);
        KIT.due("imports others", Pattern.compile("import (?!java\\.util\\.Arrays;)").matcher(code).find(), false);
        KIT.due("signs above 127", Files.readString(SOURCE).chars().allMatch(c -> c < 128), true);
    }

    private static void noPrivateNamesake() throws IOException {
        Set<String> names = new TreeSet<>();
        for (Method m : GodWeathers.class.getDeclaredMethods()) {
            if (Modifier.isPublic(m.getModifiers())) {
                names.add(m.getName());
            }
        }
        for (Method m : GodWeathers.class.getDeclaredMethods()) {
            KIT.due(m + " is a namesake", Modifier.isPrivate(m.getModifiers()) && names.contains(m.getName()), false);
        }
        for (Class<?> c : GodWeathers.class.getDeclaredClasses()) {
            for (Method m : c.getDeclaredMethods()) {
                KIT.due(m + " is a namesake", names.contains(m.getName()), false);
            }
        }
    }

    /** Some sixty lines at most; a method ends at the first brace that stands as far to the right as it begins. */
    private static void shortMethods() throws IOException {
        Matcher method = Pattern.compile("(?ms)^( {4}| {8})(?! )[^\\n=;]*\\w\\([^\\n;]*\\) \\{$(.*?)^\\1\\}$").matcher(code());
        int methods = 0;
        while (method.find()) {
            methods++;
            KIT.due("short: " + method.group().strip().lines().findFirst().orElse(""), method.group(2).lines().count() <= 60, true);
        }
        KIT.due(methods + " methods", methods > 100, true);
    }
}
