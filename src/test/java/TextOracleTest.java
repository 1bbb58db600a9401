import java.util.ArrayList;
import java.util.List;
import java.util.Random;

/** Texts by chance, well told and spoilt, with cuts and images between them, against the plainest reading of them. */
final class TextOracleTest {
    private static final Kit KIT = new Kit("TextOracleTest");
    private static final int RUNS = 3000;
    /** Behind so many calls a run begins nothing more; no step makes a hundred. */
    private static final int ENOUGH = 410;
    private static final String[][] WORDS = {
        {"child", "weather", "oppose", "needs", "patience", "work", "work", "child"},
        {"ask", "thank", "come", "do", "day", "day"},
        {"heard", "deaf"}};
    private static final int[][] NUMBERS = {{3, 2, 2, 2, 2, 1, 1, 3}, {2, 2, 1, 1, 0, 0}, {1, 1}};
    private static final String ODD_BYTES = "az`{/09:;; \n\t\0\177\200\377AZ?-";

    /** How often each fault came of each sort: a fault that never came was never held against anything. */
    private static final int[][] SEEN = new int[3][5];

    /** What is told, as a copy of it would be kept. */
    private static final class Plain {
        String tape = "";
        int fault;
        int place = -1;
        final List<List<PlainText>> told = List.of(new ArrayList<>(), new ArrayList<>(), new ArrayList<>());

        Plain copy() {
            Plain other = new Plain();
            other.tape = tape;
            other.fault = fault;
            other.place = place;
            for (int sort = 0; sort < 3; sort++) {
                other.told.get(sort).addAll(told.get(sort));
            }
            return other;
        }
    }

    private final Random chance;
    private final String name;
    private final GodWeathers x = new GodWeathers();
    private final Plain[] images = new Plain[3];
    private Plain now = new Plain();
    private int calls;

    private TextOracleTest(int seed) {
        chance = new Random(seed);
        name = "run " + seed + ": ";
    }

    public static void main(String[] args) {
        for (int seed = 0; seed < RUNS; seed++) {
            new TextOracleTest(seed).run();
        }
        for (int sort = 0; sort < 3; sort++) {
            for (int fault = 0; fault < (sort == 0 ? 5 : 4); fault++) {
                KIT.due("fault " + fault + " of sort " + sort + " came " + SEEN[sort][fault] + " times, often",
                    SEEN[sort][fault] > 40, true);
            }
        }
        KIT.finish();
    }

    private void due(String call, long got, long want) {
        calls++;
        KIT.due(name + call, got, want);
    }

    private void run() {
        while (calls < ENOUGH) {
            int step = chance.nextInt(12);
            if (step < 7) {
                tell();
            } else if (step == 7) {
                due("image", x.image(keepImage()) ? 1 : 0, 1);
            } else if (step == 8) {
                takeImage();
            } else if (step == 9) {
                cut(chance.nextInt(now.tape.length() + 2) - 1);
            } else if (step == 10) {
                feed(someText(chance.nextInt(3)));
            } else {
                take(chance.nextInt(5) - 1, chance.nextInt(5) - 2);
            }
            lookAround();
        }
    }

    private int keepImage() {
        int k = chance.nextInt(3);
        images[k] = now.copy();
        return k;
    }

    private void takeImage() {
        int k = chance.nextInt(3);
        due("again " + k, x.again(k) ? 1 : 0, images[k] == null ? 0 : 1);
        if (images[k] != null) {
            now = images[k].copy();
        }
    }

    private void cut(int n) {
        boolean can = n >= 0 && n <= now.tape.length();
        due("end " + n, x.end(n), can ? n : -1);
        if (can) {
            now.tape = now.tape.substring(0, n);
        }
    }

    private void feed(String text) {
        for (int at = 0; at < text.length(); at += 20) {
            StringBuilder twenty = new StringBuilder(text.substring(at, Math.min(text.length(), at + 20)));
            while (twenty.length() < 20) {
                twenty.append(' ');
            }
            int[] fours = new int[5];
            for (int i = 0; i < 20; i++) {
                fours[i / 4] = fours[i / 4] << 8 | twenty.charAt(i);
            }
            boolean fits = now.tape.length() + 20 <= 600;
            now.tape += fits ? twenty : "";
            due("feed", x.feed(fours[0], fours[1], fours[2], fours[3], fours[4]), fits ? now.tape.length() : -1);
        }
    }

    private void tell() {
        int sort = chance.nextInt(3);
        String text = someText(sort);
        cut(0);
        feed(text);
        cut(text.length() > 600 ? now.tape.length() : text.length());
        int at = chance.nextInt(3) - 1;
        take(sort, at < now.told.get(sort).size() ? at : -1);
    }

    private void take(int sort, int at) {
        int many = sort < 0 || sort > 2 ? 0 : now.told.get(sort).size();
        boolean isPlace = sort >= 0 && sort < 3 && (at == -1 ? many < 2 : at >= 0 && at < many);
        String call = "text(" + sort + ", " + at + ") of [" + now.tape + "] ";
        int want = -2;
        now.fault = 0;
        now.place = -1;
        if (isPlace) {
            PlainText read = new PlainText(sort, now.tape);
            now.fault = read.fault;
            now.place = read.place;
            SEEN[sort][read.fault]++;
            want = read.fault != 0 ? -1 : at == -1 ? many : at;
            if (want >= 0) {
                keep(now.told.get(sort), want, read);
            }
        }
        now.tape = "";
        due(call, x.text(sort, at), want);
        due(call + "fault", x.fault(0), now.fault);
        due(call + "place", x.fault(1), now.place);
    }

    private static void keep(List<PlainText> all, int at, PlainText text) {
        if (at == all.size()) {
            all.add(text);
        } else {
            all.set(at, text);
        }
    }

    /** A text of a sort, mostly one that may be; by chance it is cut off, or a byte of it is another. */
    private String someText(int sort) {
        boolean isTidy = chance.nextInt(3) != 0;
        StringBuilder text = new StringBuilder();
        int works = chance.nextInt(7);
        for (int k = 0; k < works && sort == 0 && isTidy; k++) {
            text.append("work").append(gap(0)).append(chance.nextInt(21)).append(';');
        }
        int[] most = {isTidy ? 12 : 36, isTidy ? 41 : 60, isTidy ? 9 : 14};
        int children = 0;
        for (int n = chance.nextInt(most[sort]); n > 0; n--) {
            int word = chance.nextInt(WORDS[sort].length);
            String line = WORDS[sort][word];
            children += line.equals("child") ? 1 : 0;
            boolean tooMany = line.equals("child") && children > 6 || line.equals("work") || line.equals("needs") && works == 0;
            if (sort != 0 || !isTidy || !tooMany) {
                text.append(gap(0)).append(line).append(numbers(sort, word, isTidy, works)).append(gap(0)).append(';');
            }
        }
        text.append(gap(0));
        if (chance.nextInt(4) == 0) {
            spoil(text);
        }
        if (text.length() > 600) {
            text.setLength(600);
        }
        return text.toString();
    }

    private String numbers(int sort, int word, boolean isTidy, int works) {
        StringBuilder text = new StringBuilder();
        int many = NUMBERS[sort][word] + (chance.nextInt(isTidy ? 1000 : 60) == 0 ? 1 : 0);
        int start = chance.nextInt(8);
        for (int i = 0; i < many; i++) {
            String line = WORDS[sort][word];
            // Weathers of one line are unlike; the other numbers have bounds of their own.
            int number = (start + 3 * i) % 8;
            if (i == 0 && (line.equals("needs") || line.equals("ask") || line.equals("thank") || line.equals("do"))) {
                number = chance.nextInt(line.equals("needs") ? Math.max(works, 1) : 6);
            } else if (line.equals("work")) {
                number = chance.nextInt(21);
            } else if (i == 1 && (line.equals("weather") || line.equals("patience"))) {
                number = line.equals("weather") ? chance.nextInt(11) : 1 + chance.nextInt(9);
            }
            if (!isTidy && chance.nextInt(25) == 0) {
                number = chance.nextInt(chance.nextBoolean() ? 12 : 120);
            }
            text.append(gap(i == 0 || chance.nextInt(isTidy ? 1000 : 40) == 0 ? 0 : 1));
            text.append(chance.nextInt(20) == 0 && number < 10 ? "0" : "").append(number);
        }
        return text.toString();
    }

    private String gap(int atLeast) {
        int[] often = {0, 1, 0, 0, 1, 2};
        StringBuilder blanks = new StringBuilder();
        for (int n = Math.max(atLeast, often[chance.nextInt(often.length)]); n > 0; n--) {
            blanks.append(chance.nextInt(3) == 0 ? '\n' : ' ');
        }
        return blanks.toString();
    }

    private void spoil(StringBuilder text) {
        if (text.length() == 0) {
            return;
        }
        int at = chance.nextInt(text.length());
        char odd = ODD_BYTES.charAt(chance.nextInt(ODD_BYTES.length()));
        switch (chance.nextInt(4)) {
            case 0 -> text.setLength(at);
            case 1 -> text.setCharAt(at, odd);
            case 2 -> text.insert(at, odd);
            default -> text.deleteCharAt(at);
        }
    }

    private void lookAround() {
        for (int sort = 0; sort < 3; sort++) {
            due("count " + sort, x.count(sort), now.told.get(sort).size());
        }
        due("fault", x.fault(0), now.fault);
        due("place", x.fault(1), now.place);
        for (int i = 0; i < 14; i++) {
            int at = chance.nextInt(2);
            int what = chance.nextInt(70);
            due("coast " + at + " " + what, x.coast(at, what), ofCoast(at, what));
        }
        for (int i = 0; i < 5; i++) {
            int at = chance.nextInt(2);
            int what = chance.nextInt(4);
            int k = chance.nextInt(i == 0 ? 42 : 10) - 1;
            due("deed " + at + " " + k + " " + what, x.deed(at, k, what), ofLine(1, at, k, what));
            k = chance.nextInt(11) - 1;
            what = chance.nextInt(3);
            due("fact " + at + " " + k + " " + what, x.fact(at, k, what), ofLine(2, at, k, what));
        }
    }

    private int ofCoast(int at, int what) {
        List<PlainText> coasts = now.told.get(0);
        if (at >= coasts.size()) {
            return -1;
        }
        int[] answers = new int[70];
        java.util.Arrays.fill(answers, -1);
        answers[0] = 0;
        answers[1] = 0;
        for (int w = 0; w < 8; w++) {
            answers[10 + w] = 3;
            answers[20 + w] = 3;
            answers[30 + w] = 0;
        }
        int[] needs = new int[6];
        for (int[] line : coasts.get(at).lines) {
            switch (line[0]) {
                case 0 -> answers[40 + answers[0]++] = Kit.bits(line[1], line[2], line[3]);
                case 1 -> answers[10 + line[1]] = line[2];
                case 2 -> {
                    answers[30 + line[1]] |= 1 << line[2];
                    answers[30 + line[2]] |= 1 << line[1];
                }
                case 3 -> needs[line[1]] |= 1 << line[2];
                case 4 -> answers[20 + line[1]] = line[2];
                default -> answers[50 + answers[1]++] = line[1];
            }
        }
        System.arraycopy(needs, 0, answers, 60, answers[1]);
        return answers[what];
    }

    private int ofLine(int sort, int at, int k, int what) {
        List<PlainText> all = now.told.get(sort);
        if (at >= all.size()) {
            return -2;
        }
        List<int[]> lines = all.get(at).lines;
        if (k == -1) {
            return what == 0 ? lines.size() : -2;
        }
        if (k >= lines.size() || what > (sort == 1 ? 2 : 1)) {
            return -2;
        }
        return what < lines.get(k).length ? lines.get(k)[what] : -1;
    }
}
