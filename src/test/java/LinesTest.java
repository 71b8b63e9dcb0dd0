/** Promises 11 to 22: the buffer, lines, signs and syllables. */
public final class LinesTest {
    private static final Due d = new Due();
    private static final int MIN = Integer.MIN_VALUE;
    private static final int MAX = Integer.MAX_VALUE;

    public static void main(String[] args) {
        types();
        addsLines();
        findsErrorPlaces();
        readsAnew();
        ordersErrors();
        removesLines();
        changesLines();
        shiftsLines();
        setsHeight();
        tellsLines();
        tellsHeights();
        placesLines();
        placesByGroups();
        tellsSigns();
        tellsStylesOfTags();
        tellsSyllables();
        fits();
        fitsAtTheEdges();
        d.end();
    }

    private static void types() {
        SubtitleStyles x = new SubtitleStyles();
        d.due("11: type(31)", x.type(31), -1);
        d.due("11: type(127)", x.type(127), -1);
        d.due("11: type(MIN)", x.type(MIN), -1);
        d.due("11: type(MAX)", x.type(MAX), -1);
        d.due("11: type(32)", x.type(32), 1);
        d.due("11: type(126)", x.type(126), 2);
        d.due("12: clear()", x.clear(), 2);
        d.due("12: clear() again", x.clear(), 0);
        for (int i = 1; i <= 80; i++) {
            d.due("11: type('a')", x.type('a'), i);
        }
        d.due("11: type with 80", x.type('a'), -3);
        d.due("11: type(31) with 80 is BAD first", x.type(31), -1);
        d.due("13: 80 signs", x.line(0, 1, -1), 0);
        d.due("18: 80 signs", x.about(0, 4), 80);
        d.due("20: the last one", x.sign(0, 79, 0), 'a');
        d.due("20: none behind it", x.sign(0, 80, 0), -1);
        d.due("13: the buffer is empty then", x.clear(), 0);
    }

    private static void addsLines() {
        SubtitleStyles x = new SubtitleStyles();
        Due.type(x, "ab");
        d.due("13: begin -1", x.line(-1, 5, -1), -1);
        d.due("13: begin MIN", x.line(MIN, 5, -1), -1);
        d.due("13: end as begin", x.line(5, 5, -1), -1);
        d.due("13: end before begin", x.line(5, 4, -1), -1);
        d.due("13: end 100001", x.line(5, 100001, -1), -1);
        d.due("13: begin 100000", x.line(100000, 100001, -1), -1);
        d.due("13: style 0", x.line(0, 1, 0), -1);
        d.due("13: style -2", x.line(0, 1, -2), -1);
        d.due("13: MAX, MAX", x.line(MAX, MAX, -1), -1);
        d.due("13: no line then", x.lines(), 0);
        d.due("13: the buffer stays", x.type('c'), 3);
        d.due("13: line(99999, 100000, -1)", x.line(99999, 100000, -1), 0);
        d.due("13: its signs", x.about(0, 4), 3);
        d.due("13: its own margin", x.about(0, 3), -1);
        d.due("13: line(0, 100000, -1) without a text", x.line(0, 100000, -1), 1);
        d.due("13: its signs", x.about(1, 4), 0);
        x.style(-1);
        d.due("13: with a style", x.line(3, 4, 0), 2);
        d.due("13: its style", x.about(2, 2), 0);
        for (int i = 3; i < 16; i++) {
            d.due("13: line(0, 1, -1)", x.line(0, 1, -1), i);
        }
        d.due("19: lines()", x.lines(), 16);
        d.due("13: with 16", x.line(0, 1, -1), -3);
        d.due("13: BAD first", x.line(1, 1, -1), -1);
        d.due("19: lines() then", x.lines(), 16);
    }

    private static void dueError(String text, int place) {
        SubtitleStyles x = new SubtitleStyles();
        int due = place < 0 ? 0 : -100 - place;
        d.due("13: the text " + text, Due.line(x, text, 0, 1, -1), due);
        d.due("13: clear() after " + text, x.clear(), place < 0 ? 0 : text.length());
        d.due("13: undo() after " + text, x.undo(), place < 0 ? 0 : -9);
    }

    private static void findsErrorPlaces() {
        String[] right = {
            "", "a", "}", "a}b", "{s1}", "{s99}", "{s0099}", "{c0}", "{c7}", "{t0}", "{t7}", "{b0}",
            "{b1}", "{r}", "{r0}", "{r9}", "{r0009}", "{k0}", "{k9999}", "{k0000}", "{s1}{r}}"
        };
        for (String text : right) {
            dueError(text, -1);
        }
        dueError("{", 1);
        dueError("ab{", 3);
        dueError("{s", 2);
        dueError("{r", 2);
        dueError("{s5", 3);
        dueError("{k1234", 6);
        dueError("{}", 1);
        dueError("{{", 1);
        dueError("{S1}", 1);
        dueError("{1}", 1);
        dueError("{ s1}", 1);
        dueError("{x1}", 1);
        dueError("{s}", 2);
        dueError("{c}", 2);
        dueError("{t}", 2);
        dueError("{b}", 2);
        dueError("{k}", 2);
        dueError("{s-1}", 2);
        dueError("{s1x}", 3);
        dueError("{s1{", 3);
        dueError("{s1 }", 3);
        dueError("{rr}", 2);
        dueError("{s12345}", 6);
        dueError("{k00001}", 6);
        dueError("{r00001}", 6);
        dueError("{s0}", 2);
        dueError("{s100}", 2);
        dueError("{s0100}", 2);
        dueError("{c8}", 2);
        dueError("{t8}", 2);
        dueError("{b2}", 2);
        dueError("{r10}", 2);
        dueError("{r9999}", 2);
        dueError("ab{s5}{c99}{b9}", 8);
        dueError("{s0}{x", 5);
        dueError("{s0}{s5", 7);
        dueError("{c8}{s00000}", 10);
    }

    private static void readsAnew() {
        String[] wrong = {"ab{", "{s", "{s1", "{s0}", "{x}", "{k12345}"};
        for (String text : wrong) {
            SubtitleStyles x = new SubtitleStyles();
            d.due("13: is wrong: " + text, Due.line(x, text, 0, 1, -1) < -99 ? 1 : 0, 1);
            x.clear();
            d.due("13: a right text behind " + text, Due.line(x, "5}", 0, 1, -1), 0);
            d.due("18: its signs", x.about(0, 4), 2);
        }
    }

    private static void ordersErrors() {
        SubtitleStyles x = new SubtitleStyles();
        Due.type(x, "{");
        d.due("13: BAD before the error place", x.line(1, 1, -1), -1);
        x.clear();
        for (int i = 0; i < 16; i++) {
            x.line(0, 1, -1);
        }
        Due.type(x, "{");
        d.due("13: FULL before the error place", x.line(0, 1, -1), -3);
        d.due("13: the buffer stays", x.clear(), 1);
    }

    private static void removesLines() {
        SubtitleStyles x = new SubtitleStyles();
        d.due("14: remove(0) of none", x.remove(0), -1);
        d.due("14: no act", x.undo(), -9);
        Due.line(x, "a", 0, 10, -1);
        Due.line(x, "bb", 1, 11, -1);
        Due.line(x, "ccc", 2, 12, -1);
        d.due("14: remove(-1)", x.remove(-1), -1);
        d.due("14: remove(3)", x.remove(3), -1);
        d.due("14: remove(MIN)", x.remove(MIN), -1);
        d.due("14: remove(1)", x.remove(1), 2);
        d.due("14: the later one", x.about(1, 4), 3);
        d.due("14: its place", x.about(1, 9), 30);
        d.due("14: none behind it", x.about(2, 4), -1);
        d.due("14: nor a sign", x.sign(2, 0, 0), -1);
        d.due("14: nor what it shows", x.shows(2, 0, 5), -1);
        d.due("14: nor one that is shown", x.shown(5, 2), -9);
        d.due("14: remove(0)", x.remove(0), 1);
        d.due("14: the one that is left", x.about(0, 0), 2);
        d.due("14: its place then", x.about(0, 9), 10);
        d.due("14: remove(0) to none", x.remove(0), 0);
        d.due("19: lines()", x.lines(), 0);
        d.due("14: remove(0) of none", x.remove(0), -1);
    }

    private static void changesLines() {
        SubtitleStyles x = new SubtitleStyles();
        d.due("15: of none", x.change(0, 0, -1), -1);
        d.due("15: no act", x.undo(), -9);
        x.style(-1);
        x.setStyle(0, 5, 77);
        x.setStyle(0, 1, 2);
        Due.line(x, "a", 0, 10, -1);
        d.due("15: the style", x.change(0, 0, 0), -1);
        d.due("18: style", x.about(0, 2), 0);
        d.due("20: color by it", x.sign(0, 0, 2), 2);
        d.due("18: the style's margin", x.about(0, 9), 77);
        d.due("15: the margin 0", x.change(0, 1, 0), -1);
        d.due("18: own margin", x.about(0, 3), 0);
        d.due("18: the own margin 0", x.about(0, 9), 0);
        d.due("15: the margin 200", x.change(0, 1, 200), 0);
        d.due("18: the own margin 200", x.about(0, 9), 200);
        d.due("15: the margin 201", x.change(0, 1, 201), -1);
        d.due("15: the margin -2", x.change(0, 1, -2), -1);
        d.due("15: the margin MAX", x.change(0, 1, MAX), -1);
        d.due("18: own margin after errors", x.about(0, 3), 200);
        d.due("15: the margin -1", x.change(0, 1, -1), 200);
        d.due("18: the style's margin again", x.about(0, 9), 77);
        d.due("15: style 1", x.change(0, 0, 1), -1);
        d.due("15: style -2", x.change(0, 0, -2), -1);
        d.due("15: what 2", x.change(0, 2, 0), -1);
        d.due("15: what -1", x.change(0, -1, 0), -1);
        d.due("15: line 1", x.change(1, 0, 0), -1);
        d.due("15: line -1", x.change(-1, 0, 0), -1);
        d.due("18: style after errors", x.about(0, 2), 0);
        d.due("15: style -1", x.change(0, 0, -1), 0);
        d.due("18: style then", x.about(0, 2), -1);
        d.due("18: text as before", x.about(0, 4), 1);
    }

    private static void shiftsLines() {
        SubtitleStyles x = new SubtitleStyles();
        d.due("16: of none", x.shift(0, 0), -1);
        Due.line(x, "{k3}a", 10, 30, -1);
        Due.line(x, "b", 10, 30, -1);
        d.due("18: offset of 1", x.about(1, 9), 30);
        d.due("16: shift(0, 5)", x.shift(0, 5), 15);
        d.due("18: begin", x.about(0, 0), 15);
        d.due("18: end", x.about(0, 1), 35);
        d.due("18: offset of 0 then", x.about(0, 9), 30);
        d.due("18: offset of 1 then", x.about(1, 9), 10);
        d.due("21: the syllable moves along", x.syllable(0, 0, 0), 15);
        d.due("16: shift(0, -16)", x.shift(0, -16), -2);
        d.due("16: shift(0, -15)", x.shift(0, -15), 0);
        d.due("16: shift(0, 99981)", x.shift(0, 99981), -2);
        d.due("16: shift(0, 99980)", x.shift(0, 99980), 99980);
        d.due("18: end", x.about(0, 1), 100000);
        d.due("16: shift(0, 100000)", x.shift(0, 100000), -2);
        d.due("16: shift(0, -100000)", x.shift(0, -100000), -2);
        d.due("16: shift(0, 100001)", x.shift(0, 100001), -1);
        d.due("16: shift(0, -100001)", x.shift(0, -100001), -1);
        d.due("16: shift(0, MIN)", x.shift(0, MIN), -1);
        d.due("16: shift(0, MAX)", x.shift(0, MAX), -1);
        d.due("16: shift(2, 0)", x.shift(2, 0), -1);
        d.due("16: shift(-1, 0)", x.shift(-1, 0), -1);
        d.due("16: shift(0, 0)", x.shift(0, 0), 99980);
    }

    private static void setsHeight() {
        SubtitleStyles x = new SubtitleStyles();
        Due.line(x, "{s40}a", 0, 1, -1);
        d.due("17: 49", x.setHeight(49), -1);
        d.due("17: 2001", x.setHeight(2001), -1);
        d.due("17: MIN", x.setHeight(MIN), -1);
        d.due("17: MAX", x.setHeight(MAX), -1);
        d.due("17: 50", x.setHeight(50), 300);
        d.due("18: 10 and 40 are not above 50", x.about(0, 11), 0);
        x.change(0, 1, 11);
        d.due("18: 11 and 40 are above 50", x.about(0, 11), 1);
        d.due("17: 2000", x.setHeight(2000), 50);
        d.due("18: and not above 2000", x.about(0, 11), 0);
        d.due("17: 2000 again", x.setHeight(2000), 2000);
    }

    private static void tellsLines() {
        SubtitleStyles x = new SubtitleStyles();
        d.due("18: of none", x.about(0, 0), -1);
        x.style(-1);
        x.setStyle(0, 4, 2);
        Due.line(x, "a{k4}bc{k7}{k9}d", 100, 120, 0);
        int[] due = {100, 120, 0, -1, 4, 3, 20, 1, 20, 10, 2, 0};
        for (int what = 0; what < 12; what++) {
            d.due("18: about(0, " + what + ")", x.about(0, what), due[what]);
        }
        d.due("18: what 12", x.about(0, 12), -1);
        d.due("18: what -1", x.about(0, -1), -1);
        d.due("18: line 1", x.about(1, 0), -1);
        d.due("18: line -1", x.about(-1, 0), -1);
        d.due("18: MAX, MIN", x.about(MAX, MIN), -1);
        Due.line(x, "a{k4}bc{k7}{k10}d", 100, 120, 0);
        d.due("18: 21 do not fit into 20", x.about(1, 7), 0);
        Due.line(x, "", 5, 6, -1);
        d.due("18: nothing fits", x.about(2, 7), 1);
        d.due("18: no syllables", x.about(2, 5), 0);
        d.due("18: lasting nothing", x.about(2, 6), 0);
        StringBuilder many = new StringBuilder();
        for (int i = 0; i < 16; i++) {
            many.append("{k9}");
        }
        Due.line(x, many.append("{k9999}{k9999}zz").toString(), 0, 5, -1);
        d.due("18: 18 syllables", x.about(3, 5), 18);
        d.due("18: what they last", x.about(3, 6), 16 * 9 + 2 * 9999);
        many.setLength(0);
        for (int i = 0; i < 20; i++) {
            many.append("{k").append(i % 10).append("}");
        }
        Due.line(x, many.toString(), 0, 5, -1);
        d.due("18: 20 syllables", x.about(4, 5), 20);
        d.due("21: the last one", x.syllable(4, 19, 0), 81);
        d.due("21: lasts", x.syllable(4, 19, 1), 9);
    }

    private static void tellsHeights() {
        SubtitleStyles x = new SubtitleStyles();
        x.style(-1);
        x.setStyle(0, 0, 33);
        Due.line(x, "", 0, 1, -1);
        d.due("18: no signs, no style", x.about(0, 8), 20);
        Due.line(x, "{s50}", 0, 1, 0);
        d.due("18: no signs, a style", x.about(1, 8), 33);
        Due.line(x, "{s5}a{s7}b{s6}c", 0, 1, 0);
        d.due("18: the greatest, below its style's", x.about(2, 8), 7);
        Due.line(x, "a{s50}", 0, 1, 0);
        d.due("18: a tag without a sign", x.about(3, 8), 33);
        Due.line(x, "{r}{s40}{r0}b", 0, 1, -1);
        d.due("18: by a tag's style", x.about(4, 8), 33);
        x.setStyle(0, 0, 12);
        d.due("18: then", x.about(4, 8), 12);
        d.due("18: and of no signs", x.about(1, 8), 12);
    }

    private static void placesLines() {
        SubtitleStyles x = new SubtitleStyles();
        Due.line(x, "a", 0, 10, -1);
        Due.line(x, "b", 0, 20, -1);
        Due.line(x, "c", 10, 20, -1);
        d.due("18: the first", x.about(0, 9), 10);
        d.due("18: the second by its number", x.about(1, 9), 30);
        d.due("18: the first has ended", x.about(2, 9), 10);
        // Twenty units are free between 50 and 70 only for a line that is not higher.
        x.change(1, 1, 70);
        Due.line(x, "{s40}d", 10, 12, -1);
        d.due("18: above the third", x.about(3, 9), 30);
        d.due("18: its height", x.about(3, 8), 40);
        Due.line(x, "{s1}e", 11, 12, -1);
        d.due("18: above all", x.about(4, 9), 90);
        x.change(3, 1, 31);
        d.due("18: the fourth no longer fits below 70", x.about(3, 9), 90);
        d.due("18: the fifth does", x.about(4, 9), 30);
        x.change(4, 1, 69);
        d.due("18: 69 is free", x.about(4, 9), 69);
        x.change(4, 1, 70);
        d.due("18: 70 is not", x.about(4, 9), 130);
        x.shift(1, 13);
        d.due("18: one that begins later", x.about(1, 9), 70);
        d.due("18: does not push", x.about(4, 9), 71);
    }

    private static void placesByGroups() {
        SubtitleStyles x = new SubtitleStyles();
        for (int i = 0; i < 3; i++) {
            x.style(-1);
            x.setStyle(i, 4, i);
            Due.line(x, "a", 0, 10, i);
            Due.line(x, "{r1}b", 0, 10, i);
        }
        for (int i = 0; i < 3; i++) {
            d.due("18: the group " + i, x.about(2 * i, 10), i);
            d.due("18: the group " + i + " whatever tags say", x.about(2 * i + 1, 10), i);
            d.due("18: the first in it", x.about(2 * i, 9), 10);
            d.due("18: the second in it", x.about(2 * i + 1, 9), 30);
        }
        x.setStyle(1, 5, 25);
        d.due("18: margins are the style's, too", x.about(2, 9), 25);
        d.due("18: not those of a tag", x.about(1, 9), 30);
    }

    private static void dueSign(SubtitleStyles x, int sign, int[] due) {
        for (int what = 0; what < 6; what++) {
            d.due("20: sign(0, " + sign + ", " + what + ")", x.sign(0, sign, what), due[what]);
        }
    }

    private static void tellsSigns() {
        SubtitleStyles x = new SubtitleStyles();
        d.due("20: of none", x.sign(0, 0, 0), -1);
        x.style(-1);
        x.setStyle(0, 1, 4);
        Due.line(x, "a{s30}b{c2}{t5}{b1}c{k9}d{r}e{c0}f}", 0, 10, 0);
        dueSign(x, 0, new int[] {'a', 20, 4, 1, 0, -9});
        dueSign(x, 1, new int[] {'b', 30, 4, 1, 0, -9});
        dueSign(x, 2, new int[] {'c', 30, 2, 5, 1, -9});
        dueSign(x, 3, new int[] {'d', 30, 2, 5, 1, 0});
        dueSign(x, 4, new int[] {'e', 20, 4, 1, 0, 0});
        dueSign(x, 5, new int[] {'f', 20, 0, 1, 0, 0});
        dueSign(x, 6, new int[] {'}', 20, 0, 1, 0, 0});
        d.due("20: sign 7", x.sign(0, 7, 0), -1);
        d.due("20: sign -1", x.sign(0, -1, 0), -1);
        d.due("20: sign MAX", x.sign(0, MAX, 0), -1);
        d.due("20: sign MIN", x.sign(0, MIN, 0), -1);
        d.due("20: what 6", x.sign(0, 0, 6), -1);
        d.due("20: what -1", x.sign(0, 1, -1), -1);
        d.due("20: line 1", x.sign(1, 0, 0), -1);
        d.due("20: line -1", x.sign(-1, 0, 0), -1);
        x.setStyle(0, 3, 1);
        d.due("20: bold by the style", x.sign(0, 0, 4), 1);
    }

    private static void tellsStylesOfTags() {
        SubtitleStyles x = new SubtitleStyles();
        x.style(-1);
        x.style(-1);
        x.setStyle(0, 0, 31);
        x.setStyle(0, 1, 3);
        x.setStyle(1, 0, 41);
        Due.line(x, "{c6}a{r1}b{s9}c{r}d{r2}e{r0}f{r9}g", 0, 10, 0);
        int[] sizes = {31, 41, 9, 31, 20, 31, 20};
        int[] colors = {6, 7, 7, 3, 7, 3, 7};
        for (int i = 0; i < 7; i++) {
            d.due("20: size of " + i, x.sign(0, i, 1), sizes[i]);
            d.due("20: color of " + i, x.sign(0, i, 2), colors[i]);
        }
        x.style(1);
        d.due("20: the style 2 is there now", x.sign(0, 4, 1), 41);
        x.setParent(2, 0);
        d.due("20: with another parent", x.sign(0, 4, 1), 31);
        x.setParent(2, 1);
        d.due("20: with the first parent", x.sign(0, 4, 1), 41);
        x.setStyle(2, 1, 5);
        d.due("20: its color", x.sign(0, 4, 2), 5);
        x.unstyle();
        d.due("20: and gone again", x.sign(0, 4, 1), 20);
        d.due("20: its color", x.sign(0, 4, 2), 7);
        x.change(0, 0, 1);
        d.due("20: the line's style changes", x.sign(0, 3, 1), 41);
        d.due("20: not that of a tag", x.sign(0, 5, 1), 31);
    }

    private static void tellsSyllables() {
        SubtitleStyles x = new SubtitleStyles();
        d.due("21: of none", x.syllable(0, 0, 0), -1);
        Due.line(x, "a{k4}bc{k0}{k9}d", 100, 105, -1);
        int[][] due = {{100, 4, 2}, {104, 0, 0}, {104, 9, 1}};
        for (int i = 0; i < 3; i++) {
            for (int what = 0; what < 3; what++) {
                String call = "21: syllable(0, " + i + ", " + what + ")";
                d.due(call, x.syllable(0, i, what), due[i][what]);
            }
        }
        d.due("21: syllable 3", x.syllable(0, 3, 0), -1);
        d.due("21: syllable -1", x.syllable(0, -1, 0), -1);
        d.due("21: syllable MIN", x.syllable(0, MIN, 0), -1);
        d.due("21: syllable MAX", x.syllable(0, MAX, 0), -1);
        d.due("21: what 3", x.syllable(0, 0, 3), -1);
        d.due("21: what -1", x.syllable(0, 1, -1), -1);
        d.due("21: line 1", x.syllable(1, 0, 0), -1);
        d.due("21: line -1", x.syllable(-1, 0, 0), -1);
        Due.line(x, "a", 0, 1, -1);
        d.due("21: none of this line", x.syllable(1, 0, 0), -1);
    }

    private static void fits() {
        SubtitleStyles x = new SubtitleStyles();
        d.due("22: of none", x.fit(0), -1);
        Due.line(x, "a", 0, 10, -1);
        d.due("22: no syllable", x.fit(0), -2);
        d.due("22: line -1", x.fit(-1), -1);
        d.due("22: line 1", x.fit(1), -1);
        d.due("22: line MAX", x.fit(MAX), -1);
        Due.line(x, "{k5}a{k50}b{c2}c", 10, 40, -1);
        d.due("18: does not fit", x.about(1, 7), 0);
        d.due("22: shorter", x.fit(1), 25);
        d.due("21: lasts", x.syllable(1, 1, 1), 25);
        d.due("21: the other one as before", x.syllable(1, 0, 1), 5);
        d.due("18: together", x.about(1, 6), 30);
        d.due("18: fits", x.about(1, 7), 1);
        d.due("20: the rest as before", x.sign(1, 2, 2), 2);
        d.due("22: as it is", x.fit(1), 25);
        d.due("28: and that was an act", x.undo(), 3);
        d.due("28: undo the fit", x.undo(), 2);
        d.due("21: lasts again", x.syllable(1, 1, 1), 50);
        Due.line(x, "{k7}a", 10, 40, -1);
        d.due("22: longer", x.fit(2), 30);
        d.due("22: the other line as before", x.syllable(1, 1, 1), 50);
    }

    private static void fitsAtTheEdges() {
        SubtitleStyles x = new SubtitleStyles();
        Due.line(x, "{k10}a{k5}b", 0, 10, -1);
        d.due("22: to 0", x.fit(0), 0);
        d.due("18: together", x.about(0, 6), 10);
        Due.line(x, "{k11}a{k5}b", 0, 10, -1);
        d.due("22: below 0", x.fit(1), -2);
        d.due("22: nothing changed", x.syllable(1, 1, 1), 5);
        Due.line(x, "{k1}a", 0, 9999, -1);
        d.due("22: to 9999", x.fit(2), 9999);
        Due.line(x, "{k1}a", 0, 10000, -1);
        d.due("22: above 9999", x.fit(3), -2);
        Due.line(x, "{k1}{k9999}", 0, 10000, -1);
        d.due("22: just 9999", x.fit(4), 9999);
        Due.line(x, "{k4}{k3}", 0, 10, -1);
        d.due("22: the last item", x.fit(5), 6);
        d.due("21: lasts", x.syllable(5, 1, 1), 6);
        d.due("21: the first one as before", x.syllable(5, 0, 1), 4);
        Due.line(x, "{k4}", 0, 10, -1);
        d.due("22: the only item", x.fit(6), 10);
        d.due("21: lasts", x.syllable(6, 0, 1), 10);
        StringBuilder full = new StringBuilder("{k1}");
        while (full.length() < 80) {
            full.append('x');
        }
        Due.line(x, full.toString(), 0, 5000, -1);
        d.due("22: a text may grow above 80", x.fit(7), 5000);
        d.due("18: its signs", x.about(7, 4), 76);
    }
}
