import java.util.function.Supplier;
import java.util.function.ToIntFunction;

/** Each promise at the edges of its arguments and of what it answers; refusals are in RefusalsTest. */
public final class EdgesTest {
    private static final Due d = new Due();
    private static final int MIN = Integer.MIN_VALUE;
    private static final int MAX = Integer.MAX_VALUE;

    public static void main(String[] args) {
        newObject();
        parentsOfNewStyles();
        previousParents();
        previousValues();
        stylesThatAreLeft();
        valuesThatBecomeOwn();
        numbersOfStyles();
        valuesAndWhereFrom();
        charactersInTheBuffer();
        linesWithTheBuffer();
        linesThatAreLeft();
        changesOfLines();
        shiftsToTheEdges();
        numbersOfLines();
        numbersOfSigns();
        numbersOfSyllables();
        lastsOfFits();
        looksBehindEachAct();
        linesInTheOrderOfPlaces();
        crowdsAtEdges();
        sharesThatAreSung();
        nothingIsUnlike();
        actsAreUndone();
        actsThatLeaveAllAsItWas();
        questionsChangeNothing();
        fingerprintsByHand();
        fiveHundredAndTwelveCalls();
        d.end();
    }

    private static SubtitleStyles full() {
        SubtitleStyles x = new SubtitleStyles();
        for (int i = 0; i < 10; i++) {
            x.style(i - 1);
        }
        for (int i = 0; i < 16; i++) {
            Due.line(x, "{k2}a{k3}b", i, 50 + i, i % 10);
        }
        return x;
    }

    private static void newObject() {
        SubtitleStyles x = new SubtitleStyles();
        d.due("1: styles()", x.styles(), 0);
        d.due("1: lines()", x.lines(), 0);
        d.due("1: crowd()", x.crowd(), -9);
        d.due("1: unlike()", x.unlike(), 0);
        d.due("1: shown(0, 0)", x.shown(0, 0), -9);
        d.dueFloat("1: sung(0)", x.sung(0), 0f);
        d.due("1: fingerprint()", x.fingerprint(), 233L * 31 * 31 * 31 * 31 - 9 * 31);
        d.due("1: clear()", x.clear(), 0);
        d.due("1: undo()", x.undo(), -9);
        SubtitleStyles used = full();
        SubtitleStyles y = new SubtitleStyles();
        d.due("1: objects have nothing in common", y.styles() + y.lines(), 0);
        y.setHeight(50);
        d.due("1: nor the height", used.setHeight(60), 300);
    }

    private static void parentsOfNewStyles() {
        for (int parent = -1; parent < 9; parent++) {
            SubtitleStyles x = new SubtitleStyles();
            for (int i = 0; i < 9; i++) {
                x.style(-1);
            }
            d.due("2: style(" + parent + ") of nine", x.style(parent), 9);
            d.due("2: its parent", x.styleAt(9, 6), parent);
            for (int p = 0; p < 6; p++) {
                d.due("2: it has no value " + p, x.styleAt(9, p), -1);
            }
        }
        SubtitleStyles x = new SubtitleStyles();
        d.due("2: style(0) of none", x.style(0), -1);
        d.due("2: style(-1) of none", x.style(-1), 0);
        d.due("2: style(1) of one", x.style(1), -1);
        d.due("2: style(0) of one", x.style(0), 1);
    }

    private static void previousParents() {
        SubtitleStyles x = new SubtitleStyles();
        for (int i = 0; i < 10; i++) {
            x.style(-1);
        }
        d.due("3: none before", x.setParent(9, 0), -1);
        d.due("3: 0 before", x.setParent(9, 8), 0);
        d.due("3: 8 before", x.setParent(9, -1), 8);
        d.due("3: none before again", x.setParent(9, 10), -1);
        d.due("3: the first under the last", x.setParent(0, 9), -1);
        d.due("3: its parent", x.styleAt(0, 6), 9);
        d.due("3: STATE leaves it", x.setParent(9, 0), -2);
        d.due("3: none for none", x.setParent(5, -1), -1);
    }

    private static void previousValues() {
        SubtitleStyles x = full();
        d.due("4: none before, of the last style", x.setStyle(9, 5, 0), -1);
        d.due("4: 0 before", x.setStyle(9, 5, 200), 0);
        d.due("4: 200 before", x.setStyle(9, 5, -1), 200);
        d.due("4: none before again", x.setStyle(9, 5, -1), -1);
        d.due("4: none, not the parent's", x.setStyle(0, 5, 33), -1);
        d.due("4: none of the next one, although it has a value", x.setStyle(1, 5, 34), -1);
        d.due("4: its own one before", x.setStyle(1, 5, 35), 34);
        d.due("4: another property", x.setStyle(1, 4, 1), -1);
        d.due("4: another style", x.styleAt(0, 5), 33);
        d.due("4: the style 10", x.setStyle(10, 5, 33), -1);
    }

    private static void stylesThatAreLeft() {
        SubtitleStyles x = new SubtitleStyles();
        for (int i = 0; i < 10; i++) {
            x.style(i - 1);
        }
        for (int i = 9; i >= 0; i--) {
            d.due("5: unstyle() of " + (i + 1), x.unstyle(), i);
            d.due("5: styles()", x.styles(), i);
            d.due("5: the removed one", x.valueOf(i, 0), -1);
            if (i > 0) {
                d.due("5: the last one has no children then", x.styleAt(i - 1, 8), 0);
            }
        }
        d.due("5: unstyle() of none", x.unstyle(), -2);
        x.style(-1);
        x.style(-1);
        Due.line(x, "a", 0, 1, 0);
        d.due("5: the style of a line that is not the last one", x.unstyle(), 1);
        d.due("5: the style of a line that is the last one", x.unstyle(), -2);
        x.style(-1);
        x.setParent(1, 0);
        d.due("5: a parent that is not the last one", x.unstyle(), 1);
        x.style(-1);
        x.setParent(0, 1);
        d.due("5: a parent that is the last one", x.unstyle(), -2);
        x.flatten();
        d.due("5: no parent behind flatten()", x.unstyle(), 1);
    }

    private static void valuesThatBecomeOwn() {
        int[] least = {1, 0, 0, 0, 0, 0};
        for (int own = 0; own <= 6; own++) {
            SubtitleStyles x = new SubtitleStyles();
            x.style(-1);
            for (int p = 0; p < own; p++) {
                x.setStyle(0, p, least[p]);
            }
            d.due("6: flatten() of " + own + " own values", x.flatten(), 6 - own);
            for (int p = 0; p < 6; p++) {
                int basic = new int[] {20, 7, 1, 0, 0, 10}[p];
                d.due("6: the value " + p, x.styleAt(0, p), p < own ? least[p] : basic);
            }
            d.due("6: flatten() again", x.flatten(), 0);
        }
        SubtitleStyles x = full();
        x.setStyle(0, 0, 50);
        x.setStyle(9, 0, 60);
        d.due("6: flatten() of ten", x.flatten(), 58);
        d.due("6: a value of the highest parent", x.styleAt(8, 0), 50);
        d.due("6: a value of its own", x.styleAt(9, 0), 60);
        for (int style = 0; style < 10; style++) {
            d.due("6: no parent of " + style, x.styleAt(style, 6), -1);
            d.due("6: none above " + style, x.styleAt(style, 7), 0);
            d.due("6: no children of " + style, x.styleAt(style, 8), 0);
        }
        d.due("6: no round any more", x.setParent(0, 9), -1);
        d.due("6: as its own values come first", x.valueOf(0, 0), 50);
    }

    private static void numbersOfStyles() {
        SubtitleStyles row = full();
        for (int style = 0; style < 10; style++) {
            d.due("7: parents above " + style, row.styleAt(style, 7), style);
            d.due("7: children of " + style, row.styleAt(style, 8), style < 9 ? 1 : 0);
            d.due("7: parent of " + style, row.styleAt(style, 6), style - 1);
        }
        for (int children = 0; children <= 9; children++) {
            SubtitleStyles x = new SubtitleStyles();
            x.style(-1);
            for (int i = 0; i < children; i++) {
                x.style(0);
            }
            d.due("7: children", x.styleAt(0, 8), children);
        }
        SubtitleStyles x = new SubtitleStyles();
        x.style(-1);
        x.style(0);
        int[] values = {1, 2, 3, 1, 2, 200};
        for (int p = 0; p < 6; p++) {
            x.setStyle(1, p, values[p]);
        }
        int[] due = {-1, 1, 2, 3, 1, 2, 200, 0, 1, 0, -1};
        for (int what = -1; what <= 9; what++) {
            d.due("7: styleAt(1, " + what + ")", x.styleAt(1, what), due[what + 1]);
        }
        d.due("7: styleAt(2, 5)", x.styleAt(2, 5), -1);
        d.due("7: styleAt(-1, 5)", x.styleAt(-1, 5), -1);
    }

    private static void valuesAndWhereFrom() {
        SubtitleStyles x = new SubtitleStyles();
        x.style(-1);
        x.style(0);
        int[] values = {1, 2, 3, 1, 2, 200};
        for (int p = 0; p < 6; p++) {
            x.setStyle(0, p, values[p]);
        }
        x.setStyle(1, 2, 7);
        x.setStyle(1, 5, 0);
        int[] of0 = {-1, 1, 2, 3, 1, 2, 200, -1};
        int[] of1 = {-1, 1, 2, 7, 1, 2, 0, -1};
        int[] basic = {-1, 20, 7, 1, 0, 0, 10, -1};
        int[] from0 = {-1, 0, 0, 0, 0, 0, 0, -1};
        int[] from1 = {-1, 0, 0, 1, 0, 0, 1, -1};
        for (int p = -1; p <= 6; p++) {
            d.due("8: valueOf(-2, " + p + ")", x.valueOf(-2, p), -1);
            d.due("8: valueOf(-1, " + p + ")", x.valueOf(-1, p), basic[p + 1]);
            d.due("8: valueOf(0, " + p + ")", x.valueOf(0, p), of0[p + 1]);
            d.due("8: valueOf(1, " + p + ")", x.valueOf(1, p), of1[p + 1]);
            d.due("8: valueOf(2, " + p + ")", x.valueOf(2, p), -1);
            d.due("9: from(-1, " + p + ")", x.from(-1, p), -1);
            d.due("9: from(0, " + p + ")", x.from(0, p), from0[p + 1]);
            d.due("9: from(1, " + p + ")", x.from(1, p), from1[p + 1]);
            d.due("9: from(2, " + p + ")", x.from(2, p), -1);
        }
        x.style(-1);
        for (int p = 0; p < 6; p++) {
            d.due("9: the basic value " + p, x.from(2, p), -9);
        }
        // A value that is the basic one, too, is an own one all the same.
        x.setStyle(2, 0, 20);
        d.due("9: from itself", x.from(2, 0), 2);
    }

    private static void charactersInTheBuffer() {
        SubtitleStyles x = new SubtitleStyles();
        d.due("12: clear() of none", x.clear(), 0);
        x.type('a');
        d.due("12: clear() of one", x.clear(), 1);
        d.due("12: clear() of none again", x.clear(), 0);
        for (int i = 1; i <= 79; i++) {
            x.type('a');
        }
        d.due("12: clear() of 79", x.clear(), 79);
        for (int i = 1; i <= 81; i++) {
            x.type('a');
        }
        d.due("12: clear() of 80", x.clear(), 80);
        Due.type(x, "{{{");
        d.due("12: clear() of a wrong text", x.clear(), 3);
        d.due("13: nothing is left of it", x.line(0, 1, -1), 0);
        d.due("13: no signs", x.about(0, 4), 0);
    }

    private static void linesWithTheBuffer() {
        SubtitleStyles x = new SubtitleStyles();
        x.style(-1);
        x.style(-1);
        Due.type(x, "abc");
        d.due("13: style 2 of two", x.line(0, 1, 2), -1);
        d.due("13: style -2", x.line(0, 1, -2), -1);
        d.due("13: style 1", x.line(0, 1, 1), 0);
        d.due("13: style 0 without a text", x.line(0, 1, 0), 1);
        d.due("13: style -1 without a text", x.line(0, 1, -1), 2);
        for (int line = 0; line < 3; line++) {
            d.due("18: the style", x.about(line, 2), 1 - line);
            d.due("18: no margin of its own", x.about(line, 3), -1);
            d.due("18: signs", x.about(line, 4), line == 0 ? 3 : 0);
        }
        Due.type(x, "d{");
        d.due("13: a wrong text", x.line(0, 1, 0), -102);
        Due.type(x, "r}");
        d.due("13: the buffer stayed, and goes on", x.line(0, 1, 0), 3);
        d.due("13: its sign", x.about(3, 4), 1);
        Due.type(x, "e");
        x.change(3, 1, 5);
        x.shift(3, 1);
        d.due("13: the buffer of the next line alone", x.line(5, 6, -1), 4);
        d.due("13: its sign", x.sign(4, 0, 0), 'e');
        d.due("13: the other one's sign", x.sign(3, 0, 0), 'd');
    }

    private static void linesThatAreLeft() {
        for (int line = 0; line < 16; line++) {
            SubtitleStyles x = new SubtitleStyles();
            for (int i = 0; i < 16; i++) {
                x.line(i, 100, -1);
                x.change(i, 1, i);
            }
            d.due("14: remove(16) of 16", x.remove(16), -1);
            d.due("14: remove(" + line + ") of 16", x.remove(line), 15);
            for (int i = 0; i < 15; i++) {
                d.due("14: the line " + i, x.about(i, 0), i < line ? i : i + 1);
                d.due("14: its margin", x.about(i, 3), i < line ? i : i + 1);
            }
            d.due("14: no line 15", x.about(15, 0), -1);
            d.due("14: remove(15) of 15", x.remove(15), -1);
            d.due("14: room for one", x.line(0, 1, -1), 15);
            d.due("14: without a margin of its own", x.about(15, 3), -1);
        }
        SubtitleStyles x = new SubtitleStyles();
        x.line(0, 1, -1);
        d.due("14: remove(1) of one", x.remove(1), -1);
        d.due("14: remove(-1) of one", x.remove(-1), -1);
        d.due("14: remove(0) of one", x.remove(0), 0);
        d.due("14: remove(0) of none", x.remove(0), -1);
    }

    private static void changesOfLines() {
        SubtitleStyles x = full();
        int previous = 5;
        for (int style : new int[] {-1, 0, 1, 8, 9, 9, -1, -1}) {
            d.due("15: the style " + style, x.change(15, 0, style), previous);
            d.due("18: the style", x.about(15, 2), style);
            previous = style;
        }
        previous = -1;
        for (int margin : new int[] {-1, 0, 1, 199, 200, 200, 0, -1}) {
            d.due("15: the margin " + margin, x.change(15, 1, margin), previous);
            d.due("18: the margin", x.about(15, 3), margin);
            previous = margin;
        }
        d.due("15: the margin 201", x.change(15, 1, 201), -1);
        d.due("15: the style 10", x.change(15, 0, 10), -1);
        d.due("15: the line 16", x.change(16, 0, 0), -1);
        d.due("15: the style 200 is none", x.change(15, 0, 200), -1);
        d.due("15: what -1", x.change(15, -1, 0), -1);
        d.due("15: what 2", x.change(15, 2, 0), -1);
        d.due("15: the other lines", x.about(14, 2), 4);
        d.due("15: the first line", x.change(0, 0, 7), 0);
    }

    private static void shiftsToTheEdges() {
        SubtitleStyles x = new SubtitleStyles();
        x.line(0, 1, -1);
        d.due("16: by 100000", x.shift(0, 100000), -2);
        d.due("16: by 99999", x.shift(0, 99999), 99999);
        d.due("18: the end", x.about(0, 1), 100000);
        d.due("16: by 1", x.shift(0, 1), -2);
        d.due("16: by 0 at the end", x.shift(0, 0), 99999);
        d.due("16: by -100000", x.shift(0, -100000), -2);
        d.due("16: by -99999", x.shift(0, -99999), 0);
        d.due("18: the end", x.about(0, 1), 1);
        d.due("16: by -1", x.shift(0, -1), -2);
        d.due("16: by 0 at the beginning", x.shift(0, 0), 0);
        d.due("16: by 100001", x.shift(0, 100001), -1);
        d.due("16: by -100001", x.shift(0, -100001), -1);
        d.due("16: as before", x.about(0, 0), 0);
        Due.line(x, "{k7}a{k1}b", 10, 20, -1);
        d.due("16: to the end less 1", x.shift(1, 99979), 99989);
        d.due("16: to the end", x.shift(1, 1), 99990);
        d.due("16: beyond the end", x.shift(1, 1), -2);
        d.due("21: syllables move along, beyond the end, too", x.syllable(1, 1, 0), 99997);
        d.due("16: to 1", x.shift(1, -99989), 1);
        d.due("16: below 0", x.shift(1, -2), -2);
        d.due("16: to 0", x.shift(1, -1), 0);
        d.due("16: the other line", x.about(0, 1), 1);
        x.line(0, 100000, -1);
        d.due("16: no room to move on", x.shift(2, 1), -2);
        d.due("16: no room to move back", x.shift(2, -1), -2);
        d.due("16: by nothing", x.shift(2, 0), 0);
    }

    private static void numbersOfLines() {
        SubtitleStyles x = new SubtitleStyles();
        x.style(-1);
        x.setStyle(0, 0, 99);
        x.setStyle(0, 4, 2);
        Due.line(x, "a{k4}bc{k7}{k9999}d", 99900, 100000, 0);
        x.change(0, 1, 200);
        x.setHeight(298);
        int[] due = {-1, 99900, 100000, 0, 200, 4, 3, 10010, 0, 99, 200, 2, 1, -1};
        for (int what = -1; what <= 12; what++) {
            d.due("18: about(0, " + what + ")", x.about(0, what), due[what + 1]);
        }
        x.line(0, 1, -1);
        int[] plain = {-1, 0, 1, -1, -1, 0, 0, 0, 1, 20, 10, 0, 0, -1};
        for (int what = -1; what <= 12; what++) {
            d.due("18: about(1, " + what + ")", x.about(1, what), plain[what + 1]);
            d.due("18: about(-1, " + what + ")", x.about(-1, what), -1);
            d.due("18: about(2, " + what + ")", x.about(2, what), -1);
        }
        SubtitleStyles y = full();
        d.due("18: the line 15", y.about(15, 0), 15);
        d.due("18: the line 16", y.about(16, 0), -1);
        d.due("19: lines()", y.lines(), 16);
    }

    private static void numbersOfSigns() {
        SubtitleStyles x = new SubtitleStyles();
        Due.line(x, "{s5}{c2}{t3}{b1}{k1}a}", 0, 1, -1);
        int[] due = {-1, 'a', 5, 2, 3, 1, 0, -1};
        for (int what = -1; what <= 6; what++) {
            d.due("20: sign(0, 0, " + what + ")", x.sign(0, 0, what), due[what + 1]);
            d.due("20: sign(0, -1, " + what + ")", x.sign(0, -1, what), -1);
            d.due("20: sign(0, 2, " + what + ")", x.sign(0, 2, what), -1);
            d.due("20: sign(1, 0, " + what + ")", x.sign(1, 0, what), -1);
            d.due("20: sign(-1, 0, " + what + ")", x.sign(-1, 0, what), -1);
        }
        d.due("20: the last sign", x.sign(0, 1, 0), '}');
        Due.line(x, "{s5}", 0, 1, -1);
        d.due("20: a line without signs", x.sign(1, 0, 0), -1);
    }

    private static void numbersOfSyllables() {
        SubtitleStyles x = new SubtitleStyles();
        Due.line(x, "z{k30}abc{k9999}", 100, 101, -1);
        int[] first = {-1, 100, 30, 3, -1};
        int[] second = {-1, 130, 9999, 0, -1};
        for (int what = -1; what <= 3; what++) {
            d.due("21: syllable(0, 0, " + what + ")", x.syllable(0, 0, what), first[what + 1]);
            d.due("21: syllable(0, 1, " + what + ")", x.syllable(0, 1, what), second[what + 1]);
            d.due("21: syllable(0, -1, " + what + ")", x.syllable(0, -1, what), -1);
            d.due("21: syllable(0, 2, " + what + ")", x.syllable(0, 2, what), -1);
            d.due("21: syllable(1, 0, " + what + ")", x.syllable(1, 0, what), -1);
            d.due("21: syllable(-1, 0, " + what + ")", x.syllable(-1, 0, what), -1);
        }
        Due.line(x, "{k0}".repeat(19) + "abcd", 0, 1, -1);
        d.due("21: nineteen", x.about(1, 5), 19);
        d.due("21: signs of the last one", x.syllable(1, 18, 2), 4);
        Due.line(x, "{k1}".repeat(20), 0, 1, -1);
        d.due("21: twenty, as many as there is room for", x.about(2, 5), 20);
        d.due("21: the last one begins", x.syllable(2, 19, 0), 19);
        d.due("21: no other one", x.syllable(2, 20, 0), -1);
    }

    /** The last of the syllables that last so long together gets so long, or the call is refused. */
    private static void dueFit(String text, int begin, int end, int due) {
        SubtitleStyles x = new SubtitleStyles();
        Due.line(x, text, begin, end, -1);
        int last = x.about(0, 5) - 1;
        int before = x.syllable(0, last, 1);
        String call = "22: fit(0) of " + text + " from " + begin + " to " + end;
        d.due(call, x.fit(0), due);
        d.due(call + ": it lasts", x.syllable(0, last, 1), due < 0 ? before : due);
        if (due >= 0) {
            d.due(call + ": all last", x.about(0, 6), end - begin);
            d.due(call + ": it fits", x.about(0, 7), 1);
            d.due(call + ": it fits again", x.fit(0), due);
        }
    }

    private static void lastsOfFits() {
        dueFit("{k5}a{k3}b", 20, 24, -2);
        dueFit("{k5}a{k3}b", 20, 25, 0);
        dueFit("{k5}a{k3}b", 20, 26, 1);
        dueFit("{k5}a{k3}b", 20, 27, 2);
        dueFit("{k5}a{k3}b", 20, 28, 3);
        dueFit("{k5}a{k3}b", 20, 29, 4);
        dueFit("{k5}a{k0}b", 0, 10003, 9998);
        dueFit("{k5}a{k0}b", 0, 10004, 9999);
        dueFit("{k5}a{k0}b", 0, 10005, -2);
        dueFit("{k9}", 0, 1, 1);
        dueFit("{k9}", 90000, 99998, 9998);
        dueFit("{k9}", 90000, 99999, 9999);
        dueFit("{k9}", 90000, 100000, -2);
        dueFit("{k1}{k2}{k3}{k4}{k5}", 0, 10, 0);
        dueFit("{k1}{k2}{k3}{k4}{k5}", 0, 9, -2);
        dueFit("{k9999}".repeat(10) + "{k1}", 0, 99990, 0);
        dueFit("{k9999}".repeat(10) + "{k1}", 0, 100000, 10);
        dueFit("{k9999}".repeat(10) + "{k1}", 0, 99989, -2);
        SubtitleStyles x = new SubtitleStyles();
        Due.line(x, "ab{c3}", 0, 10, -1);
        d.due("22: no syllable", x.fit(0), -2);
        d.due("22: no such line", x.fit(1), -1);
        d.due("22: no such line", x.fit(-1), -1);
        Due.line(x, "{k3}a{s5}b{k4}c{r}{c2}de", 100, 110, -1);
        d.due("22: its text changes by that alone", x.fit(1), 7);
        int[][] signs = {{'a', 20, 7, 0}, {'b', 5, 7, 0}, {'c', 5, 7, 1}, {'d', 20, 2, 1}, {'e', 20, 2, 1}};
        for (int sign = 0; sign < 5; sign++) {
            d.due("22: the code of " + sign, x.sign(1, sign, 0), signs[sign][0]);
            d.due("22: the size of " + sign, x.sign(1, sign, 1), signs[sign][1]);
            d.due("22: the color of " + sign, x.sign(1, sign, 2), signs[sign][2]);
            d.due("22: the syllable of " + sign, x.sign(1, sign, 5), signs[sign][3]);
        }
        d.due("22: the first syllable", x.syllable(1, 0, 1), 3);
        d.due("22: the second one begins as before", x.syllable(1, 1, 0), 103);
    }

    /** The size of a sign, the height of its line, and the offset of the next line. */
    private static void dueLook(String act, SubtitleStyles x, int size, int height, int offset) {
        d.due("20: the size behind " + act, x.sign(0, 0, 1), size);
        d.due("18: the height behind " + act, x.about(0, 8), height);
        d.due("18: the offset of the next line behind " + act, x.about(1, 9), offset);
    }

    private static void looksBehindEachAct() {
        SubtitleStyles x = new SubtitleStyles();
        x.style(-1);
        x.style(-1);
        x.setStyle(0, 0, 50);
        Due.line(x, "{r2}a{k1}{r}b", 10, 20, 1);
        Due.line(x, "c", 10, 20, -1);
        dueLook("line()", x, 20, 20, 30);
        x.style(0);
        dueLook("style()", x, 50, 50, 60);
        x.setParent(2, 1);
        dueLook("setParent()", x, 20, 20, 30);
        x.setStyle(1, 0, 40);
        dueLook("setStyle()", x, 40, 40, 50);
        x.setStyle(2, 0, 45);
        dueLook("setStyle() of a tag's style", x, 45, 45, 55);
        x.flatten();
        dueLook("flatten()", x, 45, 45, 55);
        x.unstyle();
        dueLook("unstyle()", x, 20, 40, 50);
        x.change(0, 0, 0);
        dueLook("change() of the style", x, 20, 50, 60);
        x.change(0, 1, 15);
        dueLook("change() of the margin", x, 20, 50, 65);
        x.undo();
        dueLook("undo()", x, 20, 50, 60);
        x.shift(0, 10);
        dueLook("shift()", x, 20, 50, 10);
        x.undo();
        x.fit(0);
        dueLook("fit()", x, 20, 50, 60);
        d.due("21: what it lasts behind fit()", x.syllable(0, 0, 1), 10);
        x.setHeight(79);
        d.due("18: sticks out behind setHeight()", x.about(1, 11), 1);
        x.undo();
        d.due("18: and not behind undo()", x.about(1, 11), 0);
        x.remove(0);
        d.due("18: the offset behind remove()", x.about(0, 9), 10);
        x.undo();
        dueLook("undo() of remove()", x, 20, 50, 60);
    }

    private static void linesInTheOrderOfPlaces() {
        SubtitleStyles x = new SubtitleStyles();
        for (int i = 0; i < 16; i++) {
            d.due("24: shown(50, " + i + ") of " + i, x.shown(50, i), -9);
            x.line(15 - i, 100, -1);
            d.due("24: shown(50, " + i + ") of " + (i + 1), x.shown(50, i), 0);
        }
        for (int i = 0; i < 16; i++) {
            d.due("24: the latest line is placed first: " + i, x.shown(50, i), 15 - i);
        }
        d.due("24: shown(50, 16)", x.shown(50, 16), -9);
        d.due("24: shown(50, -1)", x.shown(50, -1), -1);
        d.due("24: shown(0, 0)", x.shown(0, 0), 15);
        d.due("24: shown(0, 1)", x.shown(0, 1), -9);
        d.due("24: shown(1, 1)", x.shown(1, 1), 14);
        d.due("24: shown(99, 15)", x.shown(99, 15), 0);
        d.due("24: shown(100, 0)", x.shown(100, 0), -9);
        d.due("24: shown(MIN, 0)", x.shown(MIN, 0), -9);
        d.due("24: shown(MAX, MAX)", x.shown(MAX, MAX), -9);
        SubtitleStyles y = new SubtitleStyles();
        for (int style = 0; style < 3; style++) {
            y.style(-1);
            y.setStyle(style, 4, 2 - style);
            y.line(0, 10, style);
            y.line(0, 10, style);
            y.change(2 * style, 1, 100 + style);
        }
        // Groups first: that of the style 2 is 0; in each the second line is the lower one.
        int[] due = {5, 4, 3, 2, 1, 0, -9};
        for (int i = 0; i < 7; i++) {
            d.due("24: by groups, then by offsets: " + i, y.shown(5, i), due[i]);
        }
    }

    private static void crowdsAtEdges() {
        SubtitleStyles x = new SubtitleStyles();
        x.line(99999, 100000, -1);
        d.due("25: the last time", x.crowd(), 99999);
        x.line(0, 1, -1);
        d.due("25: the first time", x.crowd(), 0);
        x.line(1, 2, -1);
        d.due("25: one ends where one begins", x.crowd(), 0);
        x.line(99998, 100000, -1);
        d.due("25: two at the last time", x.crowd(), 99999);
        x.line(0, 2, -1);
        d.due("25: two at the first time", x.crowd(), 0);
        x.shift(4, 1);
        d.due("25: two at 1", x.crowd(), 1);
        x.shift(4, 1);
        d.due("25: none but one there", x.crowd(), 99999);
        SubtitleStyles y = new SubtitleStyles();
        for (int i = 0; i < 16; i++) {
            y.line(100 - i, 200 - i, -1);
            d.due("25: all from the latest beginning, " + i, y.crowd(), 100);
        }
        for (int i = 0; i < 16; i++) {
            d.due("25: without the first one, " + i, y.crowd(), 100 - i);
            y.remove(0);
        }
        d.due("25: of none", y.crowd(), -9);
    }

    private static void sharesThatAreSung() {
        for (int sung = 0; sung <= 6; sung++) {
            SubtitleStyles x = new SubtitleStyles();
            Due.line(x, "{k1}a{k1}b{k1}c{k1}d{k1}e{k1}f", 10, 20, -1);
            d.dueFloat("26: " + sung + " of 6", x.sung(9 + sung), (float) sung / 6f);
            Due.line(x, "xyz", 9 + sung, 20 + sung, -1);
            d.dueFloat("26: " + sung + " of the signs of both", x.sung(9 + sung), sung == 0 ? 0f : (float) sung / 9f);
        }
        SubtitleStyles x = new SubtitleStyles();
        Due.line(x, "{k5}{k5}", 0, 20, -1);
        d.dueFloat("26: no signs", x.sung(7), 0f);
        Due.line(x, "{k5}a", 8, 20, -1);
        d.dueFloat("26: a sign that is not shown", x.sung(7), 0f);
        d.dueFloat("26: a sign that is shown", x.sung(8), 1f);
        SubtitleStyles y = new SubtitleStyles();
        for (int i = 0; i < 5; i++) {
            Due.line(y, "{k0}" + "a".repeat(76), 0, 10, -1);
        }
        Due.line(y, "b", 0, 10, -1);
        d.dueFloat("26: 380 of 381", y.sung(0), 380f / 381f);
    }

    private static void nothingIsUnlike() {
        SubtitleStyles x = full();
        x.setStyle(0, 1, 3);
        x.setStyle(4, 0, 9);
        d.due("27: styles through ten parents", x.unlike(), 0);
        x.remove(0);
        Due.line(x, "a{r9}b{r4}{c1}c{r}d{s7}e", 0, 10, 7);
        long before = x.fingerprint();
        d.due("27: tags", x.unlike(), 0);
        d.due("27: nothing has changed", x.fingerprint(), before);
        int[] sizes = new int[5];
        for (int i = 0; i < 5; i++) {
            sizes[i] = x.sign(15, i, 1);
        }
        x.flatten();
        for (int i = 0; i < 5; i++) {
            d.due("27: behind flatten() the size of " + i, x.sign(15, i, 1), sizes[i]);
        }
        d.due("27: behind flatten()", x.unlike(), 0);
    }

    private static SubtitleStyles sample() {
        SubtitleStyles x = new SubtitleStyles();
        x.style(-1);
        x.style(-1);
        Due.line(x, "{k3}ab{k4}c", 5, 25, 0);
        Due.type(x, "xyz");
        return x;
    }

    /** The act gives this answer and adds one state, which undo() restores. */
    private static void acts(String call, Supplier<SubtitleStyles> start, ToIntFunction<SubtitleStyles> act, int due) {
        for (int undos = 1; undos <= 5; undos++) {
            SubtitleStyles x = start.get();
            SubtitleStyles twin = start.get();
            d.due(call, act.applyAsInt(x), due);
            d.due(call + ": undo()", x.undo(), 3);
            for (int i = 1; i < undos; i++) {
                d.due(call + ": undo() again", x.undo(), twin.undo());
            }
            d.due(call + ": fingerprint()", x.fingerprint(), twin.fingerprint());
            d.due(call + ": the height", x.setHeight(51), twin.setHeight(51));
        }
    }

    private static void actsAreUndone() {
        acts("2: style(-1)", EdgesTest::sample, x -> x.style(-1), 2);
        acts("2: style(1)", EdgesTest::sample, x -> x.style(1), 2);
        acts("3: setParent(0, 1)", EdgesTest::sample, x -> x.setParent(0, 1), -1);
        acts("4: setStyle(0, 0, 1)", EdgesTest::sample, x -> x.setStyle(0, 0, 1), -1);
        acts("4: setStyle(1, 5, 200)", EdgesTest::sample, x -> x.setStyle(1, 5, 200), -1);
        acts("5: unstyle()", EdgesTest::sample, x -> x.unstyle(), 1);
        acts("6: flatten()", EdgesTest::sample, x -> x.flatten(), 12);
        acts("13: line(0, 100000, 1)", EdgesTest::sample, x -> x.line(0, 100000, 1), 1);
        acts("14: remove(0)", EdgesTest::sample, x -> x.remove(0), 0);
        acts("15: change(0, 0, 1)", EdgesTest::sample, x -> x.change(0, 0, 1), 0);
        acts("15: change(0, 1, 200)", EdgesTest::sample, x -> x.change(0, 1, 200), -1);
        acts("16: shift(0, -5)", EdgesTest::sample, x -> x.shift(0, -5), 0);
        acts("16: shift(0, 99975)", EdgesTest::sample, x -> x.shift(0, 99975), 99980);
        acts("17: setHeight(50)", EdgesTest::sample, x -> x.setHeight(50), 300);
        acts("17: setHeight(2000)", EdgesTest::sample, x -> x.setHeight(2000), 300);
        acts("22: fit(0)", EdgesTest::sample, x -> x.fit(0), 17);
    }

    private static void actsThatLeaveAllAsItWas() {
        acts("3: no parent for none", EdgesTest::sample, x -> x.setParent(0, -1), -1);
        acts("4: no value for none", EdgesTest::sample, x -> x.setStyle(0, 0, -1), -1);
        acts("15: its style for its style", EdgesTest::sample, x -> x.change(0, 0, 0), 0);
        acts("15: no margin for none", EdgesTest::sample, x -> x.change(0, 1, -1), -1);
        acts("16: by nothing", EdgesTest::sample, x -> x.shift(0, 0), 5);
        acts("17: the height that it has", EdgesTest::sample, x -> x.setHeight(300), 300);
        Supplier<SubtitleStyles> flat = () -> {
            SubtitleStyles x = new SubtitleStyles();
            x.line(0, 1, -1);
            x.style(-1);
            x.flatten();
            return x;
        };
        acts("6: flat ones", flat, x -> x.flatten(), 0);
        Supplier<SubtitleStyles> none = () -> {
            SubtitleStyles x = new SubtitleStyles();
            x.setHeight(100);
            x.setHeight(101);
            x.setHeight(102);
            return x;
        };
        acts("6: no styles", none, x -> x.flatten(), 0);
        Supplier<SubtitleStyles> fitting = () -> {
            SubtitleStyles x = new SubtitleStyles();
            x.setHeight(100);
            x.setHeight(101);
            Due.line(x, "{k4}a{k6}b", 0, 10, -1);
            return x;
        };
        acts("22: what fits", fitting, x -> x.fit(0), 6);
    }

    private static void questionsChangeNothing() {
        SubtitleStyles x = sample();
        SubtitleStyles twin = sample();
        long before = x.fingerprint();
        for (int a = -2; a <= 3; a++) {
            for (int b = -2; b <= 3; b++) {
                x.styleAt(a, b + 5);
                x.valueOf(a, b);
                x.from(a, b);
                x.about(a, b + 8);
                x.sign(a, b, 1);
                x.syllable(a, b, 1);
                x.shows(a, b, 9);
                x.shown(9 * a, b);
            }
            x.sung(9 * a);
        }
        x.styles();
        x.lines();
        x.crowd();
        x.unlike();
        d.due("29: behind questions", x.fingerprint(), before);
        d.due("12: behind questions", x.clear(), 3);
        for (int i = 0; i < 4; i++) {
            d.due("28: behind questions", x.undo(), twin.undo());
            d.due("29: behind questions and undo()", x.fingerprint(), twin.fingerprint());
        }
    }

    private static long mix(int... numbers) {
        long print = 233;
        for (int number : numbers) {
            print = 31 * print + number;
        }
        return print;
    }

    private static void fingerprintsByHand() {
        SubtitleStyles x = new SubtitleStyles();
        x.style(-1);
        long style = mix(1, -1, -1, -1, -1, -1, -1, -1, 0, 0, 20, 7, 1, 0, 0, 10, 0, -9, 0);
        d.due("29: one style", x.fingerprint(), style);
        x.undo();
        x.line(3, 9, -1);
        long line = mix(0, 1, 3, 9, -1, -1, 0, 0, 0, 1, 20, 10, 0, 0, 3, 0);
        d.due("29: one line", x.fingerprint(), line);
        x.remove(0);
        Due.line(x, "a{k8}b", 3, 9, -1);
        long both = mix(0, 1, 3, 9, -1, -1, 2, 1, 8, 0, 20, 10, 0, 0, 'a', 20, 7, 1, 0, -9, 'b', 20, 7, 1, 0, 0,
                3, 8, 1, 3, 0);
        d.due("29: signs and a syllable", x.fingerprint(), both);
        x.setHeight(50);
        d.due("29: the height alone is not in it", x.fingerprint(), both);
        x.type('a');
        d.due("29: nor is the buffer", x.fingerprint(), both);
    }

    private static void fiveHundredAndTwelveCalls() {
        SubtitleStyles x = new SubtitleStyles();
        for (int i = 0; i < 255; i++) {
            d.due("2: style(-1), call " + (2 * i + 1), x.style(-1), 0);
            d.due("5: unstyle(), call " + (2 * i + 2), x.unstyle(), 0);
        }
        d.due("28: undo(), call 511", x.undo(), 4);
        d.due("10: styles(), call 512", x.styles(), 1);
        SubtitleStyles y = new SubtitleStyles();
        for (int i = 0; i < 100; i++) {
            y.type('a');
            y.line(i, i + 5, -1);
            y.change(0, 1, i);
            y.shift(0, 1);
            y.remove(0);
        }
        d.due("19: lines(), call 501", y.lines(), 0);
        d.due("28: undo(), call 502", y.undo(), 4);
        d.due("18: the line, call 503", y.about(0, 0), 100);
        d.due("18: its margin, call 504", y.about(0, 3), 99);
        SubtitleStyles z = full();
        long print = z.fingerprint();
        for (int i = 0; i < 200; i++) {
            d.due("29: fingerprint() again", z.fingerprint(), print);
        }
    }
}
