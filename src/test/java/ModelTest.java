import java.util.ArrayDeque;
import java.util.ArrayList;
import java.util.Arrays;
import java.util.Comparator;
import java.util.Deque;
import java.util.List;
import java.util.regex.Matcher;
import java.util.regex.Pattern;

/**
 * All promises: long runs of calls, each answer compared with that of a slow second program that
 * is written from the document alone, keeps texts as they were typed and tries offsets one by one.
 */
public final class ModelTest {
    private static final int CALLS = 512;
    /** The calls that end a run: what follows a text, the fingerprints and undo(). */
    private static final int LAST_CALLS = 20;
    private static final int RUNS = 1000;

    /** A state of the slow program. */
    private static final class State {
        final List<int[]> styles = new ArrayList<>(); // six values, the parent
        final List<int[]> lines = new ArrayList<>(); // begin, end, style, margin
        final List<String> texts = new ArrayList<>();
        int height = 300;

        State copy() {
            State other = new State();
            for (int[] style : styles) {
                other.styles.add(style.clone());
            }
            for (int[] line : lines) {
                other.lines.add(line.clone());
            }
            other.texts.addAll(texts);
            other.height = height;
            return other;
        }
    }

    /** The slow program. */
    private static final class Slow {
        private static final int[] BASIC = {20, 7, 1, 0, 0, 10};
        private static final int[] LOW = {1, 0, 0, 0, 0, 0};
        private static final int[] HIGH = {99, 7, 7, 1, 2, 200};
        private static final Pattern ITEM =
                Pattern.compile("\\{([sctbk])(\\d{1,4})\\}|\\{(r)(\\d{0,4})\\}|([^{])");
        private static final Pattern WHOLE =
                Pattern.compile("(?:[^{]|\\{(?:[sctbk]\\d{1,4}|r\\d{0,4})\\})*");

        private String buffer = "";
        private State now = new State();
        private final Deque<State> history = new ArrayDeque<>();

        private void act() {
            history.addLast(now.copy());
            if (history.size() > 5) {
                history.removeFirst();
            }
        }

        private boolean isStyle(int style) {
            return style >= 0 && style < now.styles.size();
        }

        private boolean isStyleOrNone(int style) {
            return style == -1 || isStyle(style);
        }

        private boolean isLine(int line) {
            return line >= 0 && line < now.lines.size();
        }

        int style(int parent) {
            if (!isStyleOrNone(parent)) {
                return -1;
            }
            if (now.styles.size() == 10) {
                return -3;
            }
            act();
            now.styles.add(new int[] {-1, -1, -1, -1, -1, -1, parent});
            return now.styles.size() - 1;
        }

        int setParent(int style, int parent) {
            if (!isStyle(style) || !isStyleOrNone(parent)) {
                return -1;
            }
            for (int at = parent; at != -1; at = now.styles.get(at)[6]) {
                if (at == style) {
                    return -2;
                }
            }
            act();
            int previous = now.styles.get(style)[6];
            now.styles.get(style)[6] = parent;
            return previous;
        }

        int setStyle(int style, int property, int value) {
            if (!isStyle(style) || property < 0 || property > 5) {
                return -1;
            }
            if (value != -1 && (value < LOW[property] || value > HIGH[property])) {
                return -1;
            }
            act();
            int previous = now.styles.get(style)[property];
            now.styles.get(style)[property] = value;
            return previous;
        }

        int unstyle() {
            int last = now.styles.size() - 1;
            if (last < 0 || now.styles.stream().anyMatch(s -> s[6] == last)
                    || now.lines.stream().anyMatch(l -> l[2] == last)) {
                return -2;
            }
            act();
            now.styles.remove(last);
            return last;
        }

        int flatten() {
            act();
            return flattenNow();
        }

        private int flattenNow() {
            List<int[]> flat = new ArrayList<>();
            int added = 0;
            for (int s = 0; s < now.styles.size(); s++) {
                int[] row = new int[7];
                for (int p = 0; p < 6; p++) {
                    row[p] = value(s, p);
                    added += now.styles.get(s)[p] == -1 ? 1 : 0;
                }
                row[6] = -1;
                flat.add(row);
            }
            now.styles.clear();
            now.styles.addAll(flat);
            return added;
        }

        int styleAt(int style, int what) {
            if (!isStyle(style) || what < 0 || what > 8) {
                return -1;
            }
            if (what <= 6) {
                return now.styles.get(style)[what];
            }
            if (what == 7) {
                int parent = now.styles.get(style)[6];
                return parent == -1 ? 0 : 1 + styleAt(parent, 7);
            }
            return (int) now.styles.stream().filter(s -> s[6] == style).count();
        }

        private int value(int style, int property) {
            if (!isStyle(style)) {
                return BASIC[property];
            }
            int own = now.styles.get(style)[property];
            return own != -1 ? own : value(now.styles.get(style)[6], property);
        }

        int valueOf(int style, int property) {
            return !isStyleOrNone(style) || property < 0 || property > 5 ? -1 : value(style, property);
        }

        int from(int style, int property) {
            if (!isStyle(style) || property < 0 || property > 5) {
                return -1;
            }
            int at = style;
            while (at != -1 && now.styles.get(at)[property] == -1) {
                at = now.styles.get(at)[6];
            }
            return at == -1 ? -9 : at;
        }

        int type(int c) {
            if (c < 32 || c > 126) {
                return -1;
            }
            if (buffer.length() == 80) {
                return -3;
            }
            buffer += (char) c;
            return buffer.length();
        }

        int clear() {
            int had = buffer.length();
            buffer = "";
            return had;
        }

        /** The first place at which no right text goes on; else the first number out of its range. */
        private static int errorPlace(String text) {
            for (int i = 0; i < text.length(); i++) {
                Matcher start = WHOLE.matcher(text.substring(0, i + 1));
                if (!start.matches() && !start.hitEnd()) {
                    return i;
                }
            }
            if (!WHOLE.matcher(text).matches()) {
                return text.length();
            }
            Matcher item = ITEM.matcher(text);
            while (item.find()) {
                int group = item.group(1) != null ? 2 : 4;
                if (item.group(5) != null || item.group(group).isEmpty()) {
                    continue;
                }
                int number = Integer.parseInt(item.group(group));
                int letter = "sctb".indexOf(text.charAt(item.start() + 1));
                boolean right = letter >= 0 ? number >= LOW[letter] && number <= HIGH[letter]
                        : item.group(3) == null || number <= 9;
                if (!right) {
                    return item.start(group);
                }
            }
            return -1;
        }

        int line(int begin, int end, int style) {
            if (begin < 0 || begin > 99999 || end <= begin || end > 100000 || !isStyleOrNone(style)) {
                return -1;
            }
            if (now.lines.size() == 16) {
                return -3;
            }
            int place = errorPlace(buffer);
            if (place >= 0) {
                return -100 - place;
            }
            act();
            now.lines.add(new int[] {begin, end, style, -1});
            now.texts.add(buffer);
            buffer = "";
            return now.lines.size() - 1;
        }

        int remove(int line) {
            if (!isLine(line)) {
                return -1;
            }
            act();
            now.lines.remove(line);
            now.texts.remove(line);
            return now.lines.size();
        }

        int change(int line, int what, int value) {
            if (!isLine(line) || what < 0 || what > 1) {
                return -1;
            }
            if (what == 0 ? !isStyleOrNone(value) : value < -1 || value > 200) {
                return -1;
            }
            act();
            int previous = now.lines.get(line)[2 + what];
            now.lines.get(line)[2 + what] = value;
            return previous;
        }

        int shift(int line, int by) {
            if (!isLine(line) || by < -100000 || by > 100000) {
                return -1;
            }
            int[] l = now.lines.get(line);
            if (l[0] + by < 0 || l[1] + by > 100000) {
                return -2;
            }
            act();
            now.lines.get(line)[0] += by;
            now.lines.get(line)[1] += by;
            return now.lines.get(line)[0];
        }

        int setHeight(int height) {
            if (height < 50 || height > 2000) {
                return -1;
            }
            act();
            int previous = now.height;
            now.height = height;
            return previous;
        }

        private List<int[]> signsOf(int line) {
            List<int[]> signs = new ArrayList<>();
            int[] set = {-1, -1, -1, -1};
            int style = now.lines.get(line)[2];
            int syllable = -9;
            Matcher item = ITEM.matcher(now.texts.get(line));
            while (item.find()) {
                if (item.group(5) != null) {
                    int[] sign = {item.group(5).charAt(0), 0, 0, 0, 0, syllable};
                    for (int p = 0; p < 4; p++) {
                        sign[p + 1] = set[p] != -1 ? set[p] : value(style, p);
                    }
                    signs.add(sign);
                } else if (item.group(3) != null) {
                    set = new int[] {-1, -1, -1, -1};
                    String number = item.group(4);
                    style = number.isEmpty() ? now.lines.get(line)[2] : Integer.parseInt(number);
                } else if (item.group(1).equals("k")) {
                    syllable = Math.max(0, syllable + 1);
                } else {
                    set["sctb".indexOf(item.group(1))] = Integer.parseInt(item.group(2));
                }
            }
            return signs;
        }

        private List<Integer> lastsOf(int line) {
            List<Integer> lasts = new ArrayList<>();
            Matcher item = ITEM.matcher(now.texts.get(line));
            while (item.find()) {
                if ("k".equals(item.group(1))) {
                    lasts.add(Integer.parseInt(item.group(2)));
                }
            }
            return lasts;
        }

        private int sum(List<Integer> numbers) {
            return numbers.stream().mapToInt(Integer::intValue).sum();
        }

        private int heightOf(int line) {
            return signsOf(line).stream().mapToInt(s -> s[1]).max().orElse(value(now.lines.get(line)[2], 0));
        }

        private int groupOf(int line) {
            return value(now.lines.get(line)[2], 4);
        }

        private int[] offsets() {
            int[] offsets = new int[now.lines.size()];
            List<Integer> order = new ArrayList<>();
            for (int i = 0; i < offsets.length; i++) {
                order.add(i);
            }
            order.sort(Comparator.comparingInt((Integer i) -> now.lines.get(i)[0]).thenComparingInt(i -> i));
            for (int n = 0; n < order.size(); n++) {
                int line = order.get(n);
                boolean[] taken = new boolean[4000];
                for (int m = 0; m < n; m++) {
                    int other = order.get(m);
                    if (groupOf(other) == groupOf(line) && now.lines.get(other)[1] > now.lines.get(line)[0]) {
                        int top = offsets[other] + heightOf(other);
                        for (int u = offsets[other]; u < top; u++) {
                            taken[u] = true;
                        }
                    }
                }
                int own = now.lines.get(line)[3];
                int offset = own != -1 ? own : value(now.lines.get(line)[2], 5);
                int height = heightOf(line);
                while (anyTaken(taken, offset, height)) {
                    offset++;
                }
                offsets[line] = offset;
            }
            return offsets;
        }

        private static boolean anyTaken(boolean[] taken, int offset, int height) {
            for (int u = offset; u < offset + height; u++) {
                if (taken[u]) {
                    return true;
                }
            }
            return false;
        }

        int about(int line, int what) {
            if (!isLine(line) || what < 0 || what > 11) {
                return -1;
            }
            int[] l = now.lines.get(line);
            switch (what) {
                case 4:
                    return signsOf(line).size();
                case 5:
                    return lastsOf(line).size();
                case 6:
                    return sum(lastsOf(line));
                case 7:
                    return sum(lastsOf(line)) <= l[1] - l[0] ? 1 : 0;
                case 8:
                    return heightOf(line);
                case 9:
                    return offsets()[line];
                case 10:
                    return groupOf(line);
                case 11:
                    return offsets()[line] + heightOf(line) > now.height ? 1 : 0;
                default:
                    return l[what];
            }
        }

        int sign(int line, int sign, int what) {
            if (!isLine(line) || sign < 0 || sign >= signsOf(line).size() || what < 0 || what > 5) {
                return -1;
            }
            return signsOf(line).get(sign)[what];
        }

        private int beginOf(int line, int syllable) {
            return now.lines.get(line)[0] + sum(lastsOf(line).subList(0, syllable));
        }

        int syllable(int line, int syllable, int what) {
            if (!isLine(line) || syllable < 0 || syllable >= lastsOf(line).size() || what < 0 || what > 2) {
                return -1;
            }
            if (what == 0) {
                return beginOf(line, syllable);
            }
            return what == 1 ? lastsOf(line).get(syllable)
                    : (int) signsOf(line).stream().filter(s -> s[5] == syllable).count();
        }

        int fit(int line) {
            if (!isLine(line)) {
                return -1;
            }
            List<Integer> lasts = lastsOf(line);
            if (lasts.isEmpty()) {
                return -2;
            }
            int others = sum(lasts.subList(0, lasts.size() - 1));
            int due = now.lines.get(line)[1] - now.lines.get(line)[0] - others;
            if (due < 0 || due > 9999) {
                return -2;
            }
            act();
            String text = now.texts.get(line);
            int start = text.lastIndexOf("{k") + 2;
            now.texts.set(line, text.substring(0, start) + due + text.substring(text.indexOf('}', start)));
            return due;
        }

        private boolean isShown(int line, int time) {
            return now.lines.get(line)[0] <= time && time < now.lines.get(line)[1];
        }

        private boolean isSung(int line, int[] sign, int time) {
            return sign[5] != -9 && beginOf(line, sign[5]) <= time;
        }

        int shows(int line, int sign, int time) {
            if (!isLine(line) || sign < 0 || sign >= signsOf(line).size()) {
                return -1;
            }
            if (!isShown(line, time)) {
                return -9;
            }
            int[] s = signsOf(line).get(sign);
            return isSung(line, s, time) ? s[3] : s[2];
        }

        int shown(int time, int i) {
            if (i < 0) {
                return -1;
            }
            int[] offsets = offsets();
            List<int[]> found = new ArrayList<>();
            for (int line = 0; line < now.lines.size(); line++) {
                if (isShown(line, time)) {
                    found.add(new int[] {groupOf(line), offsets[line], line});
                }
            }
            found.sort(Comparator.comparingInt((int[] f) -> f[0]).thenComparingInt(f -> f[1])
                    .thenComparingInt(f -> f[2]));
            return i < found.size() ? found.get(i)[2] : -9;
        }

        int crowd() {
            int last = now.lines.stream().mapToInt(l -> l[1]).max().orElse(0);
            int[] change = new int[last + 1];
            for (int[] line : now.lines) {
                change[line[0]]++;
                change[line[1]]--;
            }
            int best = -9;
            int most = 0;
            int count = 0;
            for (int time = 0; time < last; time++) {
                count += change[time];
                if (count > most) {
                    most = count;
                    best = time;
                }
            }
            return best;
        }

        float sung(int time) {
            int all = 0;
            int lit = 0;
            for (int line = 0; line < now.lines.size(); line++) {
                if (isShown(line, time)) {
                    for (int[] sign : signsOf(line)) {
                        all++;
                        lit += isSung(line, sign, time) ? 1 : 0;
                    }
                }
            }
            return all == 0 ? 0f : (float) lit / (float) all;
        }

        int unlike() {
            List<int[]> before = new ArrayList<>();
            for (int line = 0; line < now.lines.size(); line++) {
                before.addAll(signsOf(line));
            }
            State kept = now;
            now = kept.copy();
            flattenNow();
            int count = 0;
            int at = 0;
            for (int line = 0; line < now.lines.size(); line++) {
                for (int[] sign : signsOf(line)) {
                    count += Arrays.equals(sign, before.get(at)) ? 0 : 1;
                    at++;
                }
            }
            now = kept;
            return count;
        }

        int undo() {
            if (history.isEmpty()) {
                return -9;
            }
            now = history.removeLast();
            return history.size();
        }

        long fingerprint() {
            List<Integer> numbers = new ArrayList<>();
            numbers.add(now.styles.size());
            for (int s = 0; s < now.styles.size(); s++) {
                for (int what = 0; what <= 8; what++) {
                    numbers.add(styleAt(s, what));
                }
                for (int p = 0; p <= 5; p++) {
                    numbers.add(value(s, p));
                }
            }
            numbers.add(now.lines.size());
            for (int l = 0; l < now.lines.size(); l++) {
                for (int what = 0; what <= 11; what++) {
                    numbers.add(about(l, what));
                }
                for (int[] sign : signsOf(l)) {
                    for (int what = 0; what <= 5; what++) {
                        numbers.add(sign[what]);
                    }
                }
                for (int y = 0; y < lastsOf(l).size(); y++) {
                    for (int what = 0; what <= 2; what++) {
                        numbers.add(syllable(l, y, what));
                    }
                }
            }
            numbers.add(crowd());
            numbers.add(unlike());
            long print = 233;
            for (int number : numbers) {
                print = 31 * print + number;
            }
            return print;
        }
    }

    /** A row of numbers that is the same each time. */
    private static final class Dice {
        private long seed;

        Dice(long seed) {
            this.seed = seed * 2654435761L + 12345;
        }

        int below(int bound) {
            seed = seed * 6364136223846793005L + 1442695040888963407L;
            return (int) ((seed >>> 33) % bound);
        }

        /** Mostly from low to high, sometimes just outside, seldom far away. */
        int near(int low, int high) {
            int kind = below(40);
            if (kind == 0) {
                int[] far = {Integer.MIN_VALUE, Integer.MAX_VALUE, -2, 1000000, -100000, 2147483};
                return far[below(far.length)];
            }
            if (kind == 1) {
                return low - 1 - below(2);
            }
            if (kind == 2) {
                return high + 1 + below(2);
            }
            return low + below(high - low + 1);
        }

        String text() {
            StringBuilder text = new StringBuilder();
            int parts = below(7);
            for (int i = 0; i < parts; i++) {
                text.append(part());
            }
            if (below(12) == 0 && text.length() > 0) {
                text.setCharAt(below(text.length()), "{}krs019xA ".charAt(below(11)));
            }
            return text.toString();
        }

        private String part() {
            switch (below(9)) {
                case 0:
                    return "{s" + (below(15) == 0 ? below(200) : 1 + below(99)) + "}";
                case 1:
                    return "{c" + below(below(15) == 0 ? 12 : 8) + "}";
                case 2:
                    return "{t" + below(below(15) == 0 ? 12 : 8) + "}";
                case 3:
                    return "{b" + below(below(15) == 0 ? 3 : 2) + "}";
                case 4:
                    return below(2) == 0 ? "{r}" : "{r" + below(below(15) == 0 ? 12 : 10) + "}";
                case 5:
                case 6:
                    return "{k" + below(below(5) == 0 ? 10000 : 12) + "}";
                default:
                    return below(9) == 0 ? "}" : "" + (char) ('a' + below(26));
            }
        }
    }

    private static final Due d = new Due();

    private final SubtitleStyles x = new SubtitleStyles();
    private final Slow slow = new Slow();
    private final Dice dice;
    private final int run;
    /** The times of a run lie below this one, so that lines meet. */
    private final int span;
    private final boolean manyStyles;
    private int calls = 0;

    private ModelTest(int run) {
        this.run = run;
        dice = new Dice(run);
        span = new int[] {20, 60, 400, 100000}[dice.below(4)];
        manyStyles = dice.below(2) == 0;
    }

    private void due(String call, long got, long want) {
        calls++;
        d.due("run " + run + ", call " + calls + ": " + call, got, want);
    }

    private int aStyle() {
        return dice.near(-1, Math.max(0, slow.now.styles.size() - 1));
    }

    private int aLine() {
        return dice.near(0, Math.max(0, slow.now.lines.size() - 1));
    }

    private int aTime() {
        return dice.below(30) == 0 ? dice.near(0, 100000) : dice.below(span + 2) - 1;
    }

    private void typeText() {
        String text = dice.text();
        for (int i = 0; i < text.length() && calls < CALLS - LAST_CALLS; i++) {
            int c = text.charAt(i);
            due("type(" + c + ")", x.type(c), slow.type(c));
        }
    }

    private void addLine() {
        typeText();
        int begin = dice.below(30) == 0 ? dice.near(0, 99999) : dice.below(span);
        int end = begin + dice.near(1, Math.max(1, Math.min(span / 2, 100000 - begin)));
        int style = aStyle();
        int want = slow.line(begin, end, style);
        due("line(" + begin + ", " + end + ", " + style + ")", x.line(begin, end, style), want);
        if (want < 0 && dice.below(3) > 0) {
            due("clear()", x.clear(), slow.clear());
        }
    }

    private void styleCall() {
        int s = aStyle();
        int p = dice.near(0, 5);
        int[] high = {99, 7, 7, 1, 2, 200};
        switch (dice.below(8)) {
            case 0:
            case 1:
                due("style(" + s + ")", x.style(s), slow.style(s));
                break;
            case 2:
                int parent = aStyle();
                due("setParent(" + s + ", " + parent + ")", x.setParent(s, parent), slow.setParent(s, parent));
                break;
            case 3:
            case 4:
            case 5:
                int value = dice.below(6) == 0 ? -1 : dice.near(0, p >= 0 && p < 6 ? high[p] : 9);
                due("setStyle(" + s + ", " + p + ", " + value + ")",
                        x.setStyle(s, p, value), slow.setStyle(s, p, value));
                break;
            case 6:
                if (!manyStyles || dice.below(3) == 0) {
                    due("unstyle()", x.unstyle(), slow.unstyle());
                }
                break;
            default:
                if (dice.below(6) == 0) {
                    due("flatten()", x.flatten(), slow.flatten());
                }
                break;
        }
    }

    private void lineCall() {
        int l = aLine();
        switch (dice.below(7)) {
            case 0:
                if (dice.below(3) == 0) {
                    due("remove(" + l + ")", x.remove(l), slow.remove(l));
                }
                break;
            case 1:
            case 2:
                int what = dice.near(0, 1);
                int value = what == 0 ? aStyle() : dice.near(-1, dice.below(2) == 0 ? 40 : 200);
                due("change(" + l + ", " + what + ", " + value + ")",
                        x.change(l, what, value), slow.change(l, what, value));
                break;
            case 3:
                int by = dice.below(20) == 0 ? dice.near(-100000, 100000) : dice.below(span) - span / 2;
                due("shift(" + l + ", " + by + ")", x.shift(l, by), slow.shift(l, by));
                break;
            case 4:
                int height = dice.near(50, dice.below(2) == 0 ? 2000 : 300);
                due("setHeight(" + height + ")", x.setHeight(height), slow.setHeight(height));
                break;
            case 5:
                due("fit(" + l + ")", x.fit(l), slow.fit(l));
                break;
            default:
                due("undo()", x.undo(), slow.undo());
                break;
        }
    }

    private void ask() {
        int s = aStyle();
        int l = aLine();
        int i = dice.near(0, 12);
        int what = dice.near(0, 6);
        int time = aTime();
        switch (dice.below(12)) {
            case 0:
                int number = dice.near(0, 8);
                due("styleAt(" + s + ", " + number + ")", x.styleAt(s, number), slow.styleAt(s, number));
                break;
            case 1:
                due("valueOf(" + s + ", " + what + ")", x.valueOf(s, what), slow.valueOf(s, what));
                break;
            case 2:
                due("from(" + s + ", " + what + ")", x.from(s, what), slow.from(s, what));
                break;
            case 3:
                int about = dice.near(0, 11);
                due("about(" + l + ", " + about + ")", x.about(l, about), slow.about(l, about));
                break;
            case 4:
                due("sign(" + l + ", " + i + ", " + what + ")", x.sign(l, i, what), slow.sign(l, i, what));
                break;
            case 5:
                int y = dice.near(0, 3);
                int of = dice.near(0, 2);
                due("syllable(" + l + ", " + y + ", " + of + ")", x.syllable(l, y, of), slow.syllable(l, y, of));
                break;
            case 6:
            case 7:
                due("shows(" + l + ", " + i + ", " + time + ")", x.shows(l, i, time), slow.shows(l, i, time));
                break;
            case 8:
                int rank = dice.near(0, 4);
                due("shown(" + time + ", " + rank + ")", x.shown(time, rank), slow.shown(time, rank));
                break;
            case 9:
                calls++;
                d.dueFloat("run " + run + ", call " + calls + ": sung(" + time + ")", x.sung(time), slow.sung(time));
                break;
            case 10:
                due("crowd()", x.crowd(), slow.crowd());
                due("unlike()", x.unlike(), slow.unlike());
                break;
            default:
                due("styles()", x.styles(), slow.now.styles.size());
                due("lines()", x.lines(), slow.now.lines.size());
                break;
        }
    }

    private void goThrough() {
        while (calls < CALLS - LAST_CALLS) {
            int kind = dice.below(20);
            if (kind < 3) {
                addLine();
            } else if (kind < 7) {
                styleCall();
            } else if (kind < 11) {
                lineCall();
            } else {
                ask();
            }
            if (dice.below(12) == 0) {
                due("fingerprint()", x.fingerprint(), slow.fingerprint());
            }
        }
        due("fingerprint()", x.fingerprint(), slow.fingerprint());
        for (int i = 0; i < 6; i++) {
            due("undo()", x.undo(), slow.undo());
            due("fingerprint()", x.fingerprint(), slow.fingerprint());
        }
    }

    public static void main(String[] args) {
        for (int run = 1; run <= RUNS; run++) {
            new ModelTest(run).goThrough();
        }
        d.end();
    }
}
