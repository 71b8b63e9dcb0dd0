import java.util.function.Supplier;
import java.util.function.ToIntFunction;

/**
 * Each call that the document lets be refused: the answer that is due, and nothing changed behind
 * it. What is behind it is compared with an object on which the call was not made: the answers to
 * all questions, the height, the buffer, and as many of the states before as undo() can restore.
 */
public final class RefusalsTest {
    private static final Due d = new Due();
    private static final int BAD = -1;
    private static final int STATE = -2;
    private static final int FULL = -3;
    private static final int NONE = -9;
    private static final int MIN = Integer.MIN_VALUE;
    private static final int MAX = Integer.MAX_VALUE;

    public static void main(String[] args) {
        refusesStyle();
        refusesSetParent();
        refusesRoundsOfParents();
        refusesSetStyle();
        refusesUnstyle();
        refusesQuestionsOfStyles();
        refusesType();
        refusesLine();
        refusesTexts();
        refusesRemove();
        refusesChange();
        refusesShift();
        refusesSetHeight();
        refusesQuestionsOfLines();
        refusesFit();
        refusesTimes();
        refusesUndo();
        d.end();
    }

    /** Three styles, 0 above 1 above 2; three lines; "ab" in the buffer; a full history of unlike states. */
    private static SubtitleStyles sample() {
        SubtitleStyles x = new SubtitleStyles();
        x.style(-1);
        x.style(0);
        x.style(1);
        x.setStyle(0, 0, 40);
        Due.line(x, "{k3}ab{r1}c{k4}d", 5, 25, 1);
        Due.line(x, "{c3}ef", 6, 30, -1);
        x.setHeight(70);
        Due.line(x, "gh", 7, 28, 0);
        x.setStyle(1, 4, 2);
        x.setHeight(66);
        Due.type(x, "ab");
        return x;
    }

    /** One style and one line; "xyz" in the buffer; room for three more states in the history. */
    private static SubtitleStyles young() {
        SubtitleStyles x = new SubtitleStyles();
        x.style(-1);
        Due.line(x, "{k3}ab{k4}c", 5, 25, 0);
        Due.type(x, "xyz");
        return x;
    }

    /** Ten styles, each the parent of the next one; sixteen lines; eighty characters. */
    private static SubtitleStyles full() {
        SubtitleStyles x = new SubtitleStyles();
        for (int i = 0; i < 10; i++) {
            x.style(i - 1);
        }
        for (int i = 0; i < 16; i++) {
            Due.line(x, "{k2}a{k3}b", i, 50 + i, i % 10);
        }
        for (int i = 0; i < 80; i++) {
            x.type('a' + i % 26);
        }
        return x;
    }

    private static SubtitleStyles typed(String text) {
        SubtitleStyles x = young();
        x.clear();
        Due.type(x, text);
        return x;
    }

    private static void refused(String call, Supplier<SubtitleStyles> start, ToIntFunction<SubtitleStyles> made,
            int answer) {
        for (int undos = 0; undos <= 6; undos++) {
            SubtitleStyles x = start.get();
            SubtitleStyles twin = start.get();
            d.due(call, made.applyAsInt(x), answer);
            compare(call + ", then undo() " + undos + " times", x, twin, undos);
        }
    }

    private static void compare(String call, SubtitleStyles x, SubtitleStyles twin, int undos) {
        for (int i = 0; i < undos; i++) {
            d.due(call + ": undo()", x.undo(), twin.undo());
        }
        d.due(call + ": fingerprint()", x.fingerprint(), twin.fingerprint());
        d.due(call + ": the height", x.setHeight(51), twin.setHeight(51));
        d.due(call + ": room for a line", x.remove(0), twin.remove(0));
        d.due(call + ": line()", x.line(0, 9, -1), twin.line(0, 9, -1));
        d.due(call + ": the signs of the buffer", x.fingerprint(), twin.fingerprint());
        d.due(call + ": clear()", x.clear(), twin.clear());
    }

    private static void refusesStyle() {
        for (int parent : new int[] {MIN, -3, -2, 3, 4, 9, 10, MAX}) {
            refused("2: style(" + parent + ") of three", RefusalsTest::sample, x -> x.style(parent), BAD);
        }
        refused("2: style(0) of none", SubtitleStyles::new, x -> x.style(0), BAD);
        for (int parent = -1; parent <= 9; parent++) {
            int p = parent;
            refused("2: style(" + p + ") of ten", RefusalsTest::full, x -> x.style(p), FULL);
        }
        refused("2: style(-2) of ten, BAD first", RefusalsTest::full, x -> x.style(-2), BAD);
        refused("2: style(10) of ten, BAD first", RefusalsTest::full, x -> x.style(10), BAD);
    }

    private static void refusesSetParent() {
        refused("3: setParent(0, -1) of none", SubtitleStyles::new, x -> x.setParent(0, -1), BAD);
        for (int style : new int[] {MIN, -2, -1, 3, 4, MAX}) {
            refused("3: setParent(" + style + ", 0)", RefusalsTest::sample, x -> x.setParent(style, 0), BAD);
            refused("3: setParent(" + style + ", -1)", RefusalsTest::sample, x -> x.setParent(style, -1), BAD);
            refused("3: setParent(" + style + ", itself)", RefusalsTest::sample, x -> x.setParent(style, style), BAD);
        }
        for (int parent : new int[] {MIN, -3, -2, 3, 4, MAX}) {
            refused("3: setParent(0, " + parent + ")", RefusalsTest::sample, x -> x.setParent(0, parent), BAD);
            refused("3: setParent(2, " + parent + ")", RefusalsTest::sample, x -> x.setParent(2, parent), BAD);
        }
        refused("3: setParent(10, 10) of ten", RefusalsTest::full, x -> x.setParent(10, 10), BAD);
        refused("3: setParent(9, 10) of ten", RefusalsTest::full, x -> x.setParent(9, 10), BAD);
    }

    private static void refusesRoundsOfParents() {
        for (int style = 0; style < 10; style++) {
            for (int parent = style; parent < 10; parent++) {
                int s = style;
                int p = parent;
                refused("3: setParent(" + s + ", " + p + ") round", RefusalsTest::full, x -> x.setParent(s, p), STATE);
            }
        }
        refused("3: a parent of itself", RefusalsTest::young, x -> x.setParent(0, 0), STATE);
    }

    private static void refusesSetStyle() {
        int[] greatest = {99, 7, 7, 1, 2, 200};
        refused("4: setStyle(0, 0, 5) of none", SubtitleStyles::new, x -> x.setStyle(0, 0, 5), BAD);
        for (int style : new int[] {MIN, -2, -1, 3, 4, MAX}) {
            refused("4: style " + style, RefusalsTest::sample, x -> x.setStyle(style, 3, 1), BAD);
            refused("4: style " + style + ", none", RefusalsTest::sample, x -> x.setStyle(style, 3, -1), BAD);
        }
        for (int property : new int[] {MIN, -2, -1, 6, 7, MAX}) {
            refused("4: property " + property, RefusalsTest::sample, x -> x.setStyle(0, property, 1), BAD);
            refused("4: property " + property + ", none", RefusalsTest::sample, x -> x.setStyle(2, property, -1), BAD);
        }
        for (int property = 0; property < 6; property++) {
            int p = property;
            for (int value : new int[] {MIN, -3, -2, greatest[p] + 1, greatest[p] + 2, MAX}) {
                refused("4: value " + value + " of " + p, RefusalsTest::sample, x -> x.setStyle(1, p, value), BAD);
            }
        }
        refused("4: value 0 of the size", RefusalsTest::sample, x -> x.setStyle(0, 0, 0), BAD);
    }

    private static void refusesUnstyle() {
        refused("5: unstyle() of none", SubtitleStyles::new, x -> x.unstyle(), STATE);
        refused("5: of the only one, a line's", RefusalsTest::young, x -> x.unstyle(), STATE);
        refused("5: of the last of ten, a line's", RefusalsTest::full, x -> x.unstyle(), STATE);
        refused("5: of a parent", () -> {
            SubtitleStyles x = sample();
            x.setParent(2, -1);
            x.setParent(0, 2);
            return x;
        }, x -> x.unstyle(), STATE);
        for (int line = 0; line < 3; line++) {
            int l = line;
            refused("5: of the style of the line " + l, () -> {
                SubtitleStyles x = sample();
                x.change(l, 0, 2);
                return x;
            }, x -> x.unstyle(), STATE);
        }
    }

    private static void refusesQuestionsOfStyles() {
        refused("7: styleAt(0, 6) of none", SubtitleStyles::new, x -> x.styleAt(0, 6), BAD);
        refused("8: valueOf(0, 0) of none", SubtitleStyles::new, x -> x.valueOf(0, 0), BAD);
        refused("9: from(0, 0) of none", SubtitleStyles::new, x -> x.from(0, 0), BAD);
        for (int style : new int[] {MIN, -2, -1, 3, 4, MAX}) {
            for (int what = 0; what <= 8; what++) {
                int w = what;
                refused("7: styleAt(" + style + ", " + w + ")", RefusalsTest::sample, x -> x.styleAt(style, w), BAD);
            }
            for (int property = 0; property <= 5; property++) {
                int p = property;
                refused("9: from(" + style + ", " + p + ")", RefusalsTest::sample, x -> x.from(style, p), BAD);
                if (style != -1) {
                    refused("8: valueOf(" + style + ", " + p + ")", RefusalsTest::sample, x -> x.valueOf(style, p), BAD);
                }
            }
        }
        for (int what : new int[] {MIN, -2, -1, 9, 10, MAX}) {
            refused("7: styleAt(2, " + what + ")", RefusalsTest::sample, x -> x.styleAt(2, what), BAD);
        }
        for (int property : new int[] {MIN, -2, -1, 6, 7, MAX}) {
            refused("8: valueOf(2, " + property + ")", RefusalsTest::sample, x -> x.valueOf(2, property), BAD);
            refused("8: valueOf(-1, " + property + ")", RefusalsTest::sample, x -> x.valueOf(-1, property), BAD);
            refused("9: from(2, " + property + ")", RefusalsTest::sample, x -> x.from(2, property), BAD);
        }
        refused("9: from(2, 5), the basic value", RefusalsTest::sample, x -> x.from(2, 5), NONE);
    }

    private static void refusesType() {
        for (int c : new int[] {MIN, -1, 0, 30, 31, 127, 128, 256 + 'a', 65536 + 'a', MAX}) {
            refused("11: type(" + c + ")", RefusalsTest::sample, x -> x.type(c), BAD);
            refused("11: type(" + c + ") with 80, BAD first", RefusalsTest::full, x -> x.type(c), BAD);
        }
        for (int c : new int[] {32, 33, 'a', '{', 125, 126}) {
            refused("11: type(" + c + ") with 80", RefusalsTest::full, x -> x.type(c), FULL);
        }
    }

    private static void refusesLine() {
        int[][] bad = {
            {MIN, 5, -1}, {-2, 5, -1}, {-1, 5, -1}, {-1, 0, -1}, {100000, 100001, -1}, {100000, 100000, -1},
            {100001, 100002, -1}, {99999, 100001, -1}, {0, 100001, -1}, {0, 0, -1}, {5, 5, -1}, {5, 4, -1}, {5, 0, -1},
            {0, -1, -1}, {0, MIN, -1}, {0, MAX, -1}, {MAX, MIN, -1}, {MAX, MAX, -1}, {MIN, MAX, -1}
        };
        for (int[] b : bad) {
            String call = "13: line(" + b[0] + ", " + b[1] + ", " + b[2] + ")";
            refused(call, RefusalsTest::sample, x -> x.line(b[0], b[1], b[2]), BAD);
            refused(call + " with 16, BAD first", RefusalsTest::full, x -> x.line(b[0], b[1], b[2]), BAD);
            refused(call + " of a wrong text, BAD first", () -> typed("{"), x -> x.line(b[0], b[1], b[2]), BAD);
        }
        for (int style : new int[] {MIN, -3, -2, 3, 4, MAX}) {
            refused("13: style " + style, RefusalsTest::sample, x -> x.line(0, 1, style), BAD);
        }
        refused("13: style 10 with 16, BAD first", RefusalsTest::full, x -> x.line(0, 1, 10), BAD);
        refused("13: style 1 and a wrong text, BAD first", () -> typed("{"), x -> x.line(0, 1, 1), BAD);
        for (int style = -1; style < 10; style++) {
            int s = style;
            refused("13: with 16, style " + s, RefusalsTest::full, x -> x.line(0, 100000, s), FULL);
        }
        refused("13: with 16 and a wrong text, FULL first", () -> {
            SubtitleStyles x = full();
            x.clear();
            Due.type(x, "{s0}{");
            return x;
        }, x -> x.line(0, 1, -1), FULL);
    }

    private static void refusesTexts() {
        String[] texts = {"{", "a{", "{}", "{q}", "{s", "{s}", "{s1", "{s12345}", "{s0}", "{s100}", "{c8}", "{t8}",
            "{b2}", "{r10}", "{k99990}", "a{k1}{r}{s100}{c8}"};
        int[] places = {1, 2, 1, 1, 2, 2, 3, 6, 2, 2, 2, 2, 2, 2, 6, 10};
        for (int i = 0; i < texts.length; i++) {
            String text = texts[i];
            refused("13: the text " + text, () -> typed(text), x -> x.line(0, 1, 0), -100 - places[i]);
            refused("13: the text " + text, () -> typed(text), x -> x.line(99999, 100000, -1), -100 - places[i]);
        }
    }

    private static void refusesRemove() {
        refused("14: remove(0) of none", SubtitleStyles::new, x -> x.remove(0), BAD);
        for (int line : new int[] {MIN, -2, -1, 3, 4, 15, 16, MAX}) {
            refused("14: remove(" + line + ")", RefusalsTest::sample, x -> x.remove(line), BAD);
        }
        refused("14: remove(16) of 16", RefusalsTest::full, x -> x.remove(16), BAD);
        refused("14: remove(-1) of 16", RefusalsTest::full, x -> x.remove(-1), BAD);
    }

    private static void refusesChange() {
        refused("15: change(0, 0, -1) of none", SubtitleStyles::new, x -> x.change(0, 0, -1), BAD);
        refused("15: change(0, 1, 5) of none", SubtitleStyles::new, x -> x.change(0, 1, 5), BAD);
        for (int line : new int[] {MIN, -2, -1, 3, 4, MAX}) {
            refused("15: line " + line, RefusalsTest::sample, x -> x.change(line, 0, 0), BAD);
            refused("15: line " + line, RefusalsTest::sample, x -> x.change(line, 1, 7), BAD);
        }
        for (int what : new int[] {MIN, -2, -1, 2, 3, MAX}) {
            refused("15: what " + what, RefusalsTest::sample, x -> x.change(0, what, -1), BAD);
            refused("15: what " + what, RefusalsTest::sample, x -> x.change(2, what, 1), BAD);
        }
        for (int style : new int[] {MIN, -3, -2, 3, 4, 200, MAX}) {
            refused("15: style " + style, RefusalsTest::sample, x -> x.change(1, 0, style), BAD);
        }
        for (int margin : new int[] {MIN, -3, -2, 201, 202, MAX}) {
            refused("15: margin " + margin, RefusalsTest::sample, x -> x.change(1, 1, margin), BAD);
        }
        refused("15: line 16 of 16", RefusalsTest::full, x -> x.change(16, 1, 5), BAD);
        refused("15: style 10 of ten", RefusalsTest::full, x -> x.change(15, 0, 10), BAD);
    }

    private static void refusesShift() {
        refused("16: shift(0, 0) of none", SubtitleStyles::new, x -> x.shift(0, 0), BAD);
        for (int line : new int[] {MIN, -2, -1, 3, 4, MAX}) {
            refused("16: line " + line, RefusalsTest::sample, x -> x.shift(line, 1), BAD);
        }
        // The line 0 is shown from 5 to 24: each of these steps would also be too far.
        for (int by : new int[] {MIN, MIN + 5, -100002, -100001, 100001, 100002, MAX - 5, MAX}) {
            refused("16: by " + by + ", BAD first", RefusalsTest::sample, x -> x.shift(0, by), BAD);
        }
        for (int by : new int[] {-100000, -99999, -7, -6, 99976, 99977, 99999, 100000}) {
            refused("16: by " + by, RefusalsTest::sample, x -> x.shift(0, by), STATE);
        }
        refused("16: from 0 to -1", RefusalsTest::full, x -> x.shift(0, -1), STATE);
        refused("16: to 100001", RefusalsTest::full, x -> x.shift(15, 99936), STATE);
    }

    private static void refusesSetHeight() {
        for (int height : new int[] {MIN, -1, 0, 48, 49, 2001, 2002, MAX}) {
            refused("17: setHeight(" + height + ")", RefusalsTest::sample, x -> x.setHeight(height), BAD);
            refused("17: setHeight(" + height + ")", SubtitleStyles::new, x -> x.setHeight(height), BAD);
        }
    }

    private static void refusesQuestionsOfLines() {
        refused("18: about(0, 0) of none", SubtitleStyles::new, x -> x.about(0, 0), BAD);
        refused("20: sign(0, 0, 0) of none", SubtitleStyles::new, x -> x.sign(0, 0, 0), BAD);
        refused("21: syllable(0, 0, 0) of none", SubtitleStyles::new, x -> x.syllable(0, 0, 0), BAD);
        for (int line : new int[] {MIN, -2, -1, 3, 4, MAX}) {
            for (int what = 0; what <= 11; what++) {
                int w = what;
                refused("18: about(" + line + ", " + w + ")", RefusalsTest::sample, x -> x.about(line, w), BAD);
            }
            refused("20: line " + line, RefusalsTest::sample, x -> x.sign(line, 0, 0), BAD);
            refused("21: line " + line, RefusalsTest::sample, x -> x.syllable(line, 0, 0), BAD);
        }
        for (int what : new int[] {MIN, -2, -1, 12, 13, MAX}) {
            refused("18: about(0, " + what + ")", RefusalsTest::sample, x -> x.about(0, what), BAD);
        }
        for (int sign : new int[] {MIN, -2, -1, 4, 5, 80, MAX}) {
            refused("20: sign " + sign + " of four", RefusalsTest::sample, x -> x.sign(0, sign, 1), BAD);
        }
        for (int what : new int[] {MIN, -2, -1, 6, 7, MAX}) {
            refused("20: what " + what, RefusalsTest::sample, x -> x.sign(0, 1, what), BAD);
        }
        for (int syllable : new int[] {MIN, -2, -1, 2, 3, 20, MAX}) {
            refused("21: syllable " + syllable + " of two", RefusalsTest::sample, x -> x.syllable(0, syllable, 1), BAD);
        }
        for (int what : new int[] {MIN, -2, -1, 3, 4, MAX}) {
            refused("21: what " + what, RefusalsTest::sample, x -> x.syllable(0, 0, what), BAD);
        }
        refused("21: a line without syllables", RefusalsTest::sample, x -> x.syllable(1, 0, 0), BAD);
        refused("20: a sign of the line before it", RefusalsTest::sample, x -> x.sign(1, 2, 0), BAD);
    }

    private static SubtitleStyles withLine(String text, int begin, int end) {
        SubtitleStyles x = young();
        x.clear();
        Due.line(x, text, begin, end, 0);
        Due.type(x, "pq");
        return x;
    }

    private static void refusesFit() {
        refused("22: fit(0) of none", SubtitleStyles::new, x -> x.fit(0), BAD);
        for (int line : new int[] {MIN, -2, -1, 3, 4, MAX}) {
            refused("22: fit(" + line + ")", RefusalsTest::sample, x -> x.fit(line), BAD);
        }
        refused("22: no syllable", RefusalsTest::sample, x -> x.fit(1), STATE);
        refused("22: no signs", () -> withLine("", 0, 10), x -> x.fit(1), STATE);
        refused("22: to -1", () -> withLine("{k5}a{k6}b{k7}c", 20, 30), x -> x.fit(1), STATE);
        refused("22: to -2", () -> withLine("{k6}a{k6}b{k0}c", 20, 30), x -> x.fit(1), STATE);
        refused("22: to 10000", () -> withLine("{k5}a{k6}b{k9999}c", 20, 10031), x -> x.fit(1), STATE);
        refused("22: to 10001", () -> withLine("{k5}a{k6}b{k9999}c", 20, 10032), x -> x.fit(1), STATE);
        refused("22: one syllable to 10000", () -> withLine("{k0}a", 0, 10000), x -> x.fit(1), STATE);
        refused("22: one syllable to 100000", () -> withLine("{k0}a", 0, 100000), x -> x.fit(1), STATE);
    }

    private static void refusesTimes() {
        refused("23: shows(0, 0, 0) of none", SubtitleStyles::new, x -> x.shows(0, 0, 0), BAD);
        for (int time : new int[] {MIN, 4, 5, 24, 25, MAX}) {
            for (int line : new int[] {MIN, -2, -1, 3, 4, MAX}) {
                refused("23: line " + line + " at " + time, RefusalsTest::sample, x -> x.shows(line, 0, time), BAD);
            }
            for (int sign : new int[] {MIN, -2, -1, 4, 5, MAX}) {
                refused("23: sign " + sign + " at " + time, RefusalsTest::sample, x -> x.shows(0, sign, time), BAD);
            }
        }
        for (int time : new int[] {MIN, -1, 0, 3, 4, 25, 26, 100000, MAX}) {
            refused("23: at " + time, RefusalsTest::sample, x -> x.shows(0, 0, time), NONE);
        }
        for (int time : new int[] {MIN, 4, 5, 10, 30, MAX}) {
            refused("24: i -1 at " + time + ", BAD first", RefusalsTest::sample, x -> x.shown(time, -1), BAD);
            refused("24: i -2 at " + time, RefusalsTest::sample, x -> x.shown(time, -2), BAD);
            refused("24: i MIN at " + time, RefusalsTest::sample, x -> x.shown(time, MIN), BAD);
            refused("24: i 3 at " + time, RefusalsTest::sample, x -> x.shown(time, 3), NONE);
            refused("24: i MAX at " + time, RefusalsTest::sample, x -> x.shown(time, MAX), NONE);
        }
        refused("24: before all", RefusalsTest::sample, x -> x.shown(4, 0), NONE);
        refused("24: behind all", RefusalsTest::sample, x -> x.shown(30, 0), NONE);
        refused("25: crowd() of none", SubtitleStyles::new, x -> x.crowd(), NONE);
    }

    private static void refusesUndo() {
        refused("28: undo() of none", SubtitleStyles::new, x -> x.undo(), NONE);
        refused("28: undo() of none again", () -> {
            SubtitleStyles x = new SubtitleStyles();
            x.undo();
            Due.type(x, "abc");
            return x;
        }, x -> x.undo(), NONE);
        refused("28: undo() behind the oldest state", () -> {
            SubtitleStyles x = full();
            for (int i = 0; i < 5; i++) {
                x.undo();
            }
            return x;
        }, x -> x.undo(), NONE);
    }
}
