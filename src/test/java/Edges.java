import java.io.IOException;
import java.nio.file.Files;
import java.nio.file.Path;
import java.util.ArrayList;
import java.util.BitSet;
import java.util.List;
import java.util.Map;
import java.util.TreeMap;
import java.util.regex.Matcher;
import java.util.regex.Pattern;

/**
 * Edge cases, each asked under the document's own words. Words that the document does not have once, words without
 * an answer of their own, and bounds of the document under which nothing is asked, count as wrong.
 */
final class Edges {
    /** A call with one number that goes to its bounds. */
    interface Ask {
        long of(GodWeathers x, int n);
    }

    private static final Path DOCUMENT = Path.of("../shared/DOC.md");
    private static final Pattern BOUNDS_OF_PROMISES = Pattern.compile("NONE|-2|false| \\.\\. |600|empty|too\\)");
    private static final Pattern BOUNDS_OF_TERMS = Pattern.compile(
        " \\.\\. |at most|\\bnone\\b|Without|0 to |several|as good|longer row|\\d(st|th)|nobody|aside|too\\)|32 bits|at first"
        + "|or more|more than|up to|can't|never|first row|unlike|fewest|longest|further");

    private final Kit kit = new Kit("EdgesTest");
    private final Map<String, String> texts = new TreeMap<>();
    private final Map<String, BitSet> quoted = new TreeMap<>();
    private String under = "";
    private int answers = 1;

    Edges() throws IOException {
        String document = Files.readString(DOCUMENT);
        Matcher promise = Pattern.compile("(?ms)^## (Promise \\d+): \\w[^\n]*\n(.*?)(?=^## )").matcher(document);
        while (promise.find()) {
            add(promise.group(1), promise.group(2));
        }
        String terms = document.substring(document.indexOf("## Terms"), document.indexOf("The constants:"));
        Matcher term = Pattern.compile("(?ms)^(\\d)\\. (.*?)(?=^\\d\\. |\\z)").matcher(terms);
        while (term.find()) {
            add("Terms " + term.group(1), term.group(2));
        }
    }

    private void add(String section, String text) {
        texts.put(section, text.replaceAll("\\s+", " "));
        quoted.put(section, new BitSet());
    }

    void promise(int number, String words) {
        begin("Promise " + number, words);
    }

    void terms(int number, String words) {
        begin("Terms " + number, words);
    }

    private void begin(String section, String words) {
        endOfWords();
        under = section + " \"" + words + "\": ";
        String text = texts.getOrDefault(section, "");
        int at = text.indexOf(words);
        kit.due(under + "stands there once", at >= 0 && text.indexOf(words, at + 1) < 0, true);
        if (at >= 0) {
            quoted.get(section).set(at, at + words.length());
        }
        answers = 0;
    }

    private void endOfWords() {
        if (answers == 0) {
            kit.due(under + "answers", 0, 1);
        }
    }

    void due(String call, long got, long want) {
        answers++;
        kit.due(under + call, got, want);
    }

    void due(String call, boolean got, boolean want) {
        due(call, got ? 1 : 0, want ? 1 : 0);
    }

    /** The numbers of low .. high have answers, all others the one that refuses. */
    void only(String call, GodWeathers x, int low, int high, long refusal, Ask ask) {
        int[] others = {low - 1, low - 2, high + 1, high + 2, Integer.MIN_VALUE, Integer.MAX_VALUE};
        for (int n : others) {
            due(call + " of " + n + ", which is none of " + low + " .. " + high, ask.of(x, n), refusal);
        }
        for (int n = low; n <= high; n += Math.max(high - low, 1)) {
            due(call + " of " + n + ", which may be, refuses", ask.of(x, n) == refusal, false);
        }
    }

    void onlyCoasts(String call, long refusal, Ask ask) {
        for (int many = 0; many <= 2; many++) {
            only(call + ", coasts", Examples.full(many, 2, 2), 0, many - 1, refusal, ask);
        }
    }

    void onlyYears(String call, long refusal, Ask ask) {
        for (int many = 0; many <= 2; many++) {
            only(call + ", years", Examples.full(2, many, 2), 0, many - 1, refusal, ask);
        }
    }

    void onlyLogs(String call, long refusal, Ask ask) {
        for (int many = 0; many <= 2; many++) {
            only(call + ", logs", Examples.full(2, 2, many), 0, many - 1, refusal, ask);
        }
    }

    /** Children of a coast with none, with one, and with as many as may be. */
    void onlyChildren(String call, long refusal, Ask ask) {
        int[] numbers = {0, 1, 6};
        for (int many : numbers) {
            only(call + ", children", Kit.coast(Examples.coastOf(many, 6)), 0, many - 1, refusal, ask);
        }
    }

    void onlyWorks(String call, long refusal, Ask ask) {
        int[] numbers = {0, 1, 6};
        for (int many : numbers) {
            only(call + ", works", Kit.coast(Examples.coastOf(6, many)), 0, many - 1, refusal, ask);
        }
    }

    void finish() {
        endOfWords();
        kit.due("promises", texts.keySet().stream().filter(s -> s.startsWith("Promise")).count(), 44);
        for (String section : texts.keySet()) {
            Pattern bounds = section.startsWith("Promise") ? BOUNDS_OF_PROMISES : BOUNDS_OF_TERMS;
            for (String open : unquoted(section, bounds)) {
                kit.due(section + " has a bound under which nothing is asked: " + open, 1, 0);
            }
        }
        kit.finish();
    }

    private List<String> unquoted(String section, Pattern bounds) {
        String text = texts.get(section);
        List<String> open = new ArrayList<>();
        Matcher bound = bounds.matcher(text);
        while (bound.find()) {
            int gap = quoted.get(section).nextClearBit(bound.start());
            if (gap < bound.end()) {
                open.add(text.substring(Math.max(0, bound.start() - 50), Math.min(text.length(), bound.end() + 30)));
            }
        }
        return open;
    }
}
