import java.util.ArrayList;
import java.util.List;
import java.util.regex.Matcher;
import java.util.regex.Pattern;

/** A text read in the plainest way: its tokens first, then whether a text goes on with each, then its numbers. */
final class PlainText {
    private static final Pattern TOKEN = Pattern.compile("[ \n]*(?:([a-z]+)|([0-9]+)|(;))");
    private static final String[][] WORDS = {
        {"child", "weather", "oppose", "needs", "patience", "work"},
        {"ask", "thank", "come", "do", "day"},
        {"heard", "deaf"}};
    /** The grammar of each sort, a word standing as its number among WORDS, a NUMBER as n. */
    private static final Pattern[] GRAMMAR = {
        Pattern.compile("(0nnn;|[123]nn;|4nn;|5n;)*"),
        Pattern.compile("([01]nn;|[23]n;|4;)*"),
        Pattern.compile("([01]n;)*")};
    private static final int[][][] LOWEST = {
        {{0, 0, 0}, {0, 0}, {0, 0}, {0, 0}, {0, 1}, {0}},
        {{0, 0}, {0, 0}, {0}, {0}, {}},
        {{0}, {0}}};
    private static final int[][][] HIGHEST = {
        {{7, 7, 7}, {7, 10}, {7, 7}, {5, 7}, {7, 9}, {20}},
        {{5, 7}, {5, 7}, {7}, {5}, {}},
        {{7}, {7}}};

    /** Each line: the number of its word, and its numbers. */
    final List<int[]> lines = new ArrayList<>();
    int fault;
    int place = -1;

    private final int sort;
    private final int length;
    private final StringBuilder signs = new StringBuilder();
    private final List<Integer> places = new ArrayList<>();
    private final List<Integer> values = new ArrayList<>();

    PlainText(int sort, String text) {
        this.sort = sort;
        length = text.length();
        takeTokens(text);
        if (goesOn()) {
            readLines();
            if (fault == 0 && sort == 0) {
                findWorks();
            }
        }
    }

    private void takeTokens(String text) {
        Matcher token = TOKEN.matcher(text);
        int at = 0;
        while (token.find(at) && token.start() == at) {
            String word = token.group(1);
            String digits = token.group(2);
            boolean isNumber = digits != null && digits.length() <= 2;
            char sign = word != null ? signOf(word) : isNumber ? 'n' : digits != null ? '!' : ';';
            add(sign, token.end() - token.group().trim().length(), isNumber ? Integer.parseInt(digits) : 0);
            at = token.end();
        }
        String rest = text.substring(at);
        String behindBlanks = rest.replaceFirst("^[ \n]+", "");
        if (!behindBlanks.isEmpty()) {
            add('!', length - behindBlanks.length(), 0);
        }
    }

    private void add(char sign, int at, int value) {
        signs.append(sign);
        places.add(at);
        values.add(value);
    }

    private char signOf(String word) {
        int at = List.of(WORDS[sort]).indexOf(word);
        return at < 0 ? '?' : (char) ('0' + at);
    }

    /** Whether it is a text; if not, the first token behind which none could follow, or the end. */
    private boolean goesOn() {
        for (int n = 1; n <= signs.length(); n++) {
            Matcher start = GRAMMAR[sort].matcher(signs.substring(0, n));
            if (!start.matches() && !start.hitEnd()) {
                note(1, places.get(n - 1));
                return false;
            }
        }
        if (!GRAMMAR[sort].matcher(signs).matches()) {
            note(1, length);
            return false;
        }
        return true;
    }

    private void note(int which, int where) {
        if (fault == 0 || where < place || where == place && which < fault) {
            fault = which;
            place = where;
        }
    }

    private void readLines() {
        int at = 0;
        while (at < signs.length()) {
            int end = signs.indexOf(";", at);
            int[] line = new int[end - at];
            line[0] = signs.charAt(at) - '0';
            for (int i = 1; i < line.length; i++) {
                line[i] = values.get(at + i);
                if (!mayBe(line, i)) {
                    note(2, places.get(at + i));
                }
            }
            lines.add(line);
            if (told(line[0]) > most(line[0])) {
                note(3, places.get(at));
            }
            at = end + 1;
        }
    }

    private boolean mayBe(int[] line, int i) {
        int number = line[i];
        boolean isUnlike = true;
        if (sort == 0 && (line[0] == 0 || line[0] == 2)) {
            for (int before = 1; before < i; before++) {
                isUnlike &= line[before] != number;
            }
        }
        return isUnlike && number >= LOWEST[sort][line[0]][i - 1] && number <= HIGHEST[sort][line[0]][i - 1];
    }

    private int most(int word) {
        int[] ofCoast = {6, 600, 600, 600, 600, 6};
        return sort == 0 ? ofCoast[word] : sort == 1 ? 40 : 8;
    }

    /** How many lines there are of what this line tells: of a coast by its word, else all. */
    private int told(int word) {
        return (int) lines.stream().filter(line -> sort != 0 || line[0] == word).count();
    }

    private void findWorks() {
        for (int[] line : lines) {
            if (line[0] == 3 && line[1] >= told(5)) {
                note(4, length);
            }
        }
    }
}
