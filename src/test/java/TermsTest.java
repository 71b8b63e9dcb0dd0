/** The section "Terms": each sentence that names a boundary, at it and one step on either side. */
public final class TermsTest {
    private static final Due d = new Due();
    private static final int[] LEAST = {1, 0, 0, 0, 0, 0};
    private static final int[] GREATEST = {99, 7, 7, 1, 2, 200};
    private static final int[] BASIC = {20, 7, 1, 0, 0, 10};

    public static void main(String[] args) {
        rangesOfProperties();
        basicValues();
        atMostTenStyles();
        ownValuesBeforeParents();
        aNoughtIsAValue();
        neverItsOwnParent();
        atMostSixteenLines();
        beginningsAndEnds();
        shownFromBeginningToEnd();
        signsAreAllButBraces();
        lettersOfTags();
        rangesOfTags();
        signsBehindAndAheadOfTags();
        digitsOfTags();
        signsAroundDigits();
        resetsUndoTags();
        resetsToAStyle();
        groupAndMarginOfTheLine();
        syllablesFollowOneAnother();
        sungFromItsBeginning();
        fitsIfAtMost();
        heightsOfLines();
        placedByBeginnings();
        stillShownAtTheBeginning();
        unitsInCommon();
        smallestOffset();
        keepsItsOffset();
        heightOfTheScreen();
        eightyCharacters();
        codesOfCharacters();
        errorPlaces();
        firstOfSeveralErrorPlaces();
        fiveStates();
        historyHasAllButTheBuffer();
        d.end();
    }

    private static void rangesOfProperties() {
        SubtitleStyles x = new SubtitleStyles();
        x.style(-1);
        for (int p = 0; p < 6; p++) {
            // A step below 0 is -1 and means none, so that two steps below are refused.
            int below = p == 0 ? 0 : -2;
            int kept = LEAST[p] + 1;
            x.setStyle(0, p, kept);
            d.due("a value below the least of " + p, x.setStyle(0, p, below), -1);
            d.due("is not set", x.styleAt(0, p), kept);
            d.due("the least of " + p, x.setStyle(0, p, LEAST[p]), kept);
            d.due("is set", x.valueOf(0, p), LEAST[p]);
            d.due("one more of " + p, x.setStyle(0, p, LEAST[p] + 1), LEAST[p]);
            d.due("is set", x.valueOf(0, p), LEAST[p] + 1);
            d.due("one less than the greatest of " + p, x.setStyle(0, p, GREATEST[p] - 1), LEAST[p] + 1);
            d.due("is set", x.valueOf(0, p), GREATEST[p] - 1);
            d.due("the greatest of " + p, x.setStyle(0, p, GREATEST[p]), GREATEST[p] - 1);
            d.due("is set", x.valueOf(0, p), GREATEST[p]);
            d.due("one more than the greatest of " + p, x.setStyle(0, p, GREATEST[p] + 1), -1);
            d.due("is not set", x.valueOf(0, p), GREATEST[p]);
            d.due("none of " + p, x.setStyle(0, p, -1), GREATEST[p]);
            d.due("is the basic value", x.valueOf(0, p), BASIC[p]);
        }
    }

    private static void basicValues() {
        SubtitleStyles x = new SubtitleStyles();
        x.style(-1);
        for (int p = 0; p < 6; p++) {
            d.due("the basic value of " + p, x.valueOf(-1, p), BASIC[p]);
            d.due("of a style without values " + p, x.valueOf(0, p), BASIC[p]);
        }
        for (int style = -1; style <= 0; style++) {
            int line = Due.line(x, "a", 10 * style + 10, 10 * style + 20, style);
            for (int p = 0; p < 4; p++) {
                d.due("of a sign, style " + style + ", " + p, x.sign(line, 0, p + 1), BASIC[p]);
            }
            d.due("the group", x.about(line, 10), 0);
            d.due("the margin", x.about(line, 9), 10);
        }
    }

    private static void atMostTenStyles() {
        SubtitleStyles x = new SubtitleStyles();
        for (int i = 0; i < 9; i++) {
            d.due("styles are numbered from 0", x.style(-1), i);
        }
        d.due("nine styles", x.styles(), 9);
        d.due("the tenth style", x.style(-1), 9);
        d.due("ten styles", x.styles(), 10);
        d.due("the eleventh style", x.style(-1), -3);
        d.due("ten styles still", x.styles(), 10);
        d.due("no style 10", x.styleAt(10, 0), -1);
        d.due("the style 9", x.setStyle(9, 0, 33), -1);
        d.due("it is removed", x.unstyle(), 9);
        d.due("there is room again", x.style(8), 9);
        d.due("without the value of the removed one", x.styleAt(9, 0), -1);
        d.due("and no more room", x.style(8), -3);
    }

    private static void ownValuesBeforeParents() {
        for (int depth = 0; depth <= 9; depth++) {
            SubtitleStyles x = new SubtitleStyles();
            for (int i = 0; i < 10; i++) {
                x.style(i - 1);
            }
            x.setStyle(depth, 5, 100 + depth);
            for (int style = 0; style < 10; style++) {
                boolean below = style >= depth;
                d.due("value of " + style + " below " + depth, x.valueOf(style, 5), below ? 100 + depth : 10);
                d.due("from, of " + style, x.from(style, 5), below ? depth : -9);
                d.due("own value of " + style, x.styleAt(style, 5), style == depth ? 100 + depth : -1);
            }
            x.setStyle(9, 5, 7);
            d.due("its own one first", x.valueOf(9, 5), 7);
            d.due("from itself", x.from(9, 5), 9);
            x.setStyle(9, 5, -1);
            // At depth 9 the value that was replaced was its own one, and no parent has another.
            d.due("then the parent's again", x.valueOf(9, 5), depth == 9 ? 10 : 100 + depth);
        }
    }

    private static void aNoughtIsAValue() {
        SubtitleStyles x = new SubtitleStyles();
        x.style(-1);
        x.style(0);
        for (int p = 1; p < 6; p++) {
            x.setStyle(0, p, 1);
            d.due("none before 0 of " + p, x.setStyle(1, p, 0), -1);
            d.due("0 hides the parent's of " + p, x.valueOf(1, p), 0);
            d.due("0 comes from itself of " + p, x.from(1, p), 1);
            d.due("0 was the value of " + p, x.setStyle(1, p, -1), 0);
            d.due("none does not hide of " + p, x.valueOf(1, p), 1);
        }
    }

    private static void neverItsOwnParent() {
        for (int length = 1; length <= 10; length++) {
            SubtitleStyles x = new SubtitleStyles();
            for (int i = 0; i < 10; i++) {
                x.style(i > 0 && i < length ? i - 1 : -1);
            }
            d.due("a round of " + length, x.setParent(0, length - 1), -2);
            d.due("is none", x.styleAt(0, 6), -1);
            if (length < 10) {
                d.due("one beside the row of " + length, x.setParent(0, length), -1);
                d.due("is the parent", x.styleAt(0, 6), length);
                d.due("above all of the row", x.styleAt(length - 1, 7), length);
                d.due("and now a round of one more", x.setParent(length, length - 1), -2);
            }
        }
        SubtitleStyles x = new SubtitleStyles();
        x.style(-1);
        x.style(0);
        d.due("the same parent again is no round", x.setParent(1, 0), 0);
        d.due("cut", x.setParent(1, -1), 0);
        d.due("the other way", x.setParent(0, 1), -1);
        d.due("and back is a round", x.setParent(1, 0), -2);
    }

    private static void atMostSixteenLines() {
        SubtitleStyles x = new SubtitleStyles();
        for (int i = 0; i < 15; i++) {
            d.due("lines are numbered from 0", Due.line(x, "a", i, 20, -1), i);
        }
        d.due("fifteen lines", x.lines(), 15);
        d.due("the sixteenth line", Due.line(x, "b", 0, 1, -1), 15);
        d.due("sixteen lines", x.lines(), 16);
        Due.type(x, "cde");
        d.due("the seventeenth line", x.line(0, 1, -1), -3);
        d.due("sixteen lines still", x.lines(), 16);
        d.due("no line 16", x.about(16, 0), -1);
        d.due("the last one as before", x.about(15, 4), 1);
        d.due("one is removed", x.remove(3), 15);
        d.due("there is room again, and the buffer stayed", x.line(0, 1, -1), 15);
        d.due("its signs", x.about(15, 4), 3);
        d.due("and no more room", x.line(0, 1, -1), -3);
    }

    private static void dueLine(int begin, int end, int due) {
        SubtitleStyles x = new SubtitleStyles();
        d.due("line(" + begin + ", " + end + ", -1)", x.line(begin, end, -1), due);
        d.due("about " + begin, x.about(0, 0), due == 0 ? begin : -1);
        d.due("about " + end, x.about(0, 1), due == 0 ? end : -1);
    }

    private static void beginningsAndEnds() {
        dueLine(-1, 1, -1);
        dueLine(0, 1, 0);
        dueLine(1, 2, 0);
        dueLine(99998, 100000, 0);
        dueLine(99999, 100000, 0);
        dueLine(100000, 100000, -1);
        dueLine(100000, 100001, -1);
        dueLine(0, 99999, 0);
        dueLine(0, 100000, 0);
        dueLine(0, 100001, -1);
        dueLine(99999, 100001, -1);
        dueLine(50, 49, -1);
        dueLine(50, 50, -1);
        dueLine(50, 51, 0);
        dueLine(0, 0, -1);
        dueLine(1, 0, -1);
        dueLine(99999, 99999, -1);
    }

    private static void shownFromBeginningToEnd() {
        int[][] spans = {{0, 1}, {7, 8}, {5, 9}, {0, 100000}, {99999, 100000}};
        for (int[] span : spans) {
            SubtitleStyles x = new SubtitleStyles();
            Due.line(x, "{k0}a", span[0], span[1], -1);
            int[] times = {span[0] - 1, span[0], span[0] + 1, span[1] - 2, span[1] - 1, span[1], span[1] + 1};
            for (int time : times) {
                boolean shown = time >= span[0] && time < span[1];
                String at = " at " + time + " of " + span[0] + " to " + span[1];
                d.due("shows" + at, x.shows(0, 0, time), shown ? 1 : -9);
                d.due("shown" + at, x.shown(time, 0), shown ? 0 : -9);
                d.dueFloat("sung" + at, x.sung(time), shown ? 1f : 0f);
            }
        }
    }

    private static void signsAreAllButBraces() {
        for (int c = 32; c <= 126; c++) {
            SubtitleStyles x = new SubtitleStyles();
            x.type(c);
            d.due("a text of the sign " + c, x.line(0, 1, -1), c == '{' ? -101 : 0);
            d.due("its signs", x.about(0, 4), c == '{' ? -1 : 1);
            d.due("its code", x.sign(0, 0, 0), c == '{' ? -1 : c);
        }
    }

    private static int placeOf(String text) {
        return Due.line(new SubtitleStyles(), text, 0, 1, -1);
    }

    private static void lettersOfTags() {
        for (char c = 32; c <= 126; c++) {
            boolean letter = "sctbrk".indexOf(c) >= 0;
            d.due("a tag of the letter " + c + " with 1", placeOf("{" + c + "1}"), letter ? 0 : -101);
            int due = c == 'r' ? 0 : letter ? -102 : -101;
            d.due("a tag of the letter " + c + " without a number", placeOf("{" + c + "}"), due);
            d.due("the character " + c + " behind a letter", placeOf("{s" + c + "1}"), c >= '0' && c <= '9' ? 0 : -102);
        }
    }

    /** The tag is right for the numbers from low to high and wrong for one less and one more. */
    private static void rangeOfTag(char letter, int low, int high) {
        for (int number : new int[] {low - 1, low, low + 1, high - 1, high, high + 1}) {
            if (number >= 0) {
                boolean right = number >= low && number <= high;
                int due = right ? 0 : number > 9999 ? -106 : -102;
                d.due("{" + letter + number + "}", placeOf("{" + letter + number + "}"), due);
            }
        }
    }

    private static void rangesOfTags() {
        rangeOfTag('s', 1, 99);
        rangeOfTag('c', 0, 7);
        rangeOfTag('t', 0, 7);
        rangeOfTag('b', 0, 1);
        rangeOfTag('r', 0, 9);
        rangeOfTag('k', 0, 9999);
        String letters = "sctb";
        for (int p = 0; p < 4; p++) {
            for (int value : new int[] {LEAST[p], LEAST[p] + 1, GREATEST[p] - 1, GREATEST[p]}) {
                SubtitleStyles x = new SubtitleStyles();
                Due.line(x, "{" + letters.charAt(p) + value + "}a", 0, 1, -1);
                d.due("what the tag sets: " + letters.charAt(p) + value, x.sign(0, 0, p + 1), value);
            }
        }
        for (int lasts : new int[] {0, 1, 9998, 9999}) {
            SubtitleStyles x = new SubtitleStyles();
            Due.line(x, "{k" + lasts + "}{k0}a", 100, 101, -1);
            d.due("what the syllable lasts", x.syllable(0, 0, 1), lasts);
            d.due("when the next one begins", x.syllable(0, 1, 0), 100 + lasts);
        }
    }

    private static void signsBehindAndAheadOfTags() {
        String[] tags = {"{s5}", "{c5}", "{t5}", "{b1}"};
        int[] set = {5, 5, 5, 1};
        for (int tag = 0; tag < 4; tag++) {
            SubtitleStyles x = new SubtitleStyles();
            Due.line(x, "a" + tags[tag] + "bc", 0, 1, -1);
            for (int what = 1; what <= 4; what++) {
                boolean its = what == tag + 1;
                d.due(tags[tag] + " ahead of it, " + what, x.sign(0, 0, what), BASIC[what - 1]);
                d.due(tags[tag] + " behind it, " + what, x.sign(0, 1, what), its ? set[tag] : BASIC[what - 1]);
                d.due(tags[tag] + " and on, " + what, x.sign(0, 2, what), its ? set[tag] : BASIC[what - 1]);
            }
            d.due("a syllable of no tag", x.sign(0, 1, 5), -9);
        }
    }

    private static void digitsOfTags() {
        for (char letter : "sctbk".toCharArray()) {
            d.due("no digit of " + letter, placeOf("{" + letter + "}"), -102);
            d.due("a digit of " + letter, placeOf("{" + letter + "1}"), 0);
            d.due("two digits of " + letter, placeOf("{" + letter + "01}"), 0);
            d.due("three digits of " + letter, placeOf("{" + letter + "001}"), 0);
            d.due("four digits of " + letter, placeOf("{" + letter + "0001}"), 0);
            d.due("five digits of " + letter, placeOf("{" + letter + "00001}"), -106);
        }
        d.due("no digit of r", placeOf("{r}"), 0);
        d.due("four digits of r", placeOf("{r0009}"), 0);
        d.due("five digits of r", placeOf("{r00009}"), -106);
        SubtitleStyles x = new SubtitleStyles();
        Due.line(x, "{s0042}{k0012}{c007}a{k9090}", 0, 1, -1);
        d.due("noughts ahead of a size", x.sign(0, 0, 1), 42);
        d.due("noughts ahead of what lasts", x.syllable(0, 0, 1), 12);
        d.due("noughts within", x.syllable(0, 1, 1), 9090);
    }

    private static void signsAroundDigits() {
        d.due("the sign below 0", placeOf("{k1/}"), -103);
        d.due("the digit 0", placeOf("{k10}"), 0);
        d.due("the digit 9", placeOf("{k19}"), 0);
        d.due("the sign above 9", placeOf("{k1:}"), -103);
        d.due("the sign below }", placeOf("{k1|"), -103);
        d.due("the sign }", placeOf("{k1}"), 0);
        d.due("the sign above }", placeOf("{k1~"), -103);
        d.due("no sign", placeOf("{k1"), -103);
        d.due("a second {", placeOf("{k1{"), -103);
        d.due("a space", placeOf("{k1 }"), -103);
    }

    private static SubtitleStyles twoStyles() {
        SubtitleStyles x = new SubtitleStyles();
        for (int style = 0; style < 2; style++) {
            x.style(-1);
            x.setStyle(style, 0, 30 + style);
            x.setStyle(style, 1, 2 + style);
            x.setStyle(style, 2, 4 + style);
            x.setStyle(style, 3, 1 - style);
        }
        return x;
    }

    private static void dueSign(SubtitleStyles x, String name, int sign, int[] due) {
        for (int what = 1; what <= 5; what++) {
            d.due(name + ", number " + what, x.sign(0, sign, what), due[what - 1]);
        }
    }

    private static void resetsUndoTags() {
        int[][] plain = {{20, 7, 1, 0}, {30, 2, 4, 1}, {31, 3, 5, 0}};
        for (int style = -1; style <= 1; style++) {
            SubtitleStyles x = twoStyles();
            Due.line(x, "a{s50}{c0}{t0}{b1}{k1}b{r}c{c6}d{r}{r}e{r0}f{r}g{r1}h{r}i", 0, 10, style);
            int[] p = plain[style + 1];
            String of = ", style " + style;
            dueSign(x, "ahead of tags" + of, 0, new int[] {p[0], p[1], p[2], p[3], -9});
            dueSign(x, "behind tags" + of, 1, new int[] {50, 0, 0, 1, 0});
            dueSign(x, "behind a reset, in the same syllable" + of, 2, new int[] {p[0], p[1], p[2], p[3], 0});
            dueSign(x, "behind a tag behind it" + of, 3, new int[] {p[0], 6, p[2], p[3], 0});
            dueSign(x, "behind two resets" + of, 4, new int[] {p[0], p[1], p[2], p[3], 0});
            dueSign(x, "behind a reset to 0" + of, 5, new int[] {30, 2, 4, 1, 0});
            dueSign(x, "the line's style again" + of, 6, new int[] {p[0], p[1], p[2], p[3], 0});
            dueSign(x, "behind a reset to 1" + of, 7, new int[] {31, 3, 5, 0, 0});
            dueSign(x, "the line's style again" + of, 8, new int[] {p[0], p[1], p[2], p[3], 0});
        }
    }

    private static void resetsToAStyle() {
        SubtitleStyles x = twoStyles();
        Due.line(x, "{s50}{c0}{t0}{b0}a{r1}b{c6}c{r2}d{c6}e{r}f{r1}{r}g{r}{r1}h{r9}i", 0, 10, 0);
        dueSign(x, "tags", 0, new int[] {50, 0, 0, 0, -9});
        dueSign(x, "the last style", 1, new int[] {31, 3, 5, 0, -9});
        dueSign(x, "and a tag", 2, new int[] {31, 6, 5, 0, -9});
        dueSign(x, "one behind the last style", 3, new int[] {20, 7, 1, 0, -9});
        dueSign(x, "and a tag", 4, new int[] {20, 6, 1, 0, -9});
        dueSign(x, "the line's style again", 5, new int[] {30, 2, 4, 1, -9});
        dueSign(x, "the latest of two", 6, new int[] {30, 2, 4, 1, -9});
        dueSign(x, "the latest of two", 7, new int[] {31, 3, 5, 0, -9});
        dueSign(x, "no style 9", 8, new int[] {20, 7, 1, 0, -9});
        x.style(1);
        dueSign(x, "the style is there when it is asked", 3, new int[] {31, 3, 5, 0, -9});
        x.unstyle();
        dueSign(x, "and not there when it is asked", 3, new int[] {20, 7, 1, 0, -9});
        x.undo();
        dueSign(x, "and there again", 3, new int[] {31, 3, 5, 0, -9});
        for (int i = 3; i < 10; i++) {
            dueSign(x, "no style 9 yet", 8, new int[] {20, 7, 1, 0, -9});
            x.style(i == 9 ? 0 : -1);
        }
        dueSign(x, "the style 9", 8, new int[] {30, 2, 4, 1, -9});
    }

    private static void groupAndMarginOfTheLine() {
        SubtitleStyles x = new SubtitleStyles();
        x.style(-1);
        x.setStyle(0, 4, 2);
        x.setStyle(0, 5, 150);
        Due.line(x, "{r0}a", 0, 10, -1);
        d.due("the group of no style, whatever tags say", x.about(0, 10), 0);
        d.due("the margin of no style, whatever tags say", x.about(0, 9), 10);
        Due.line(x, "{r9}a", 0, 10, 0);
        d.due("the group of the style, whatever tags say", x.about(1, 10), 2);
        d.due("the margin of the style, whatever tags say", x.about(1, 9), 150);
        x.change(1, 1, 0);
        d.due("its own margin, if it is 0", x.about(1, 9), 0);
        x.change(1, 1, -1);
        d.due("if it has one", x.about(1, 9), 150);
    }

    private static void syllablesFollowOneAnother() {
        SubtitleStyles x = new SubtitleStyles();
        Due.line(x, "ab{k5}{k0}cd{k7}e", 10, 15, -1);
        d.due("ahead of the first one", x.sign(0, 1, 5), -9);
        d.due("behind two", x.sign(0, 2, 5), 1);
        d.due("behind three", x.sign(0, 4, 5), 2);
        d.due("the first one begins with the line", x.syllable(0, 0, 0), 10);
        d.due("the second one when it has lasted", x.syllable(0, 1, 0), 15);
        d.due("the third one at the same time", x.syllable(0, 2, 0), 15);
        d.due("signs of the first one", x.syllable(0, 0, 2), 0);
        d.due("signs of the second one", x.syllable(0, 1, 2), 2);
        d.due("signs of the third one", x.syllable(0, 2, 2), 1);
        d.due("no fourth one", x.syllable(0, 3, 0), -1);
        Due.line(x, "{k0}a", 0, 1, -1);
        d.due("none ahead of the first one", x.sign(1, 0, 5), 0);
        Due.line(x, "a", 0, 1, -1);
        d.due("a line without syllables", x.sign(2, 0, 5), -9);
    }

    private static void sungFromItsBeginning() {
        SubtitleStyles x = new SubtitleStyles();
        Due.line(x, "a{c2}{t3}{k5}b{c4}{t5}{k0}c{c6}{t0}{k1}d", 10, 20, -1);
        for (int time = 10; time < 20; time++) {
            boolean later = time >= 15;
            d.due("no syllable, at " + time, x.shows(0, 0, time), 7);
            d.due("the first one, at " + time, x.shows(0, 1, time), 3);
            d.due("the second one, at " + time, x.shows(0, 2, time), later ? 5 : 4);
            d.due("the third one, at " + time, x.shows(0, 3, time), later ? 0 : 6);
            d.dueFloat("all, at " + time, x.sung(time), later ? 3f / 4f : 1f / 4f);
        }
        SubtitleStyles y = new SubtitleStyles();
        Due.line(y, "{k8}a{k1}b{k1}c", 0, 9, -1);
        d.due("before the second one", y.shows(0, 1, 7), 7);
        d.due("at its beginning", y.shows(0, 1, 8), 1);
        d.due("before the third one, at the line's end", y.shows(0, 2, 8), 7);
        d.due("when it would begin, there is no line", y.shows(0, 2, 9), -9);
    }

    private static void fitsIfAtMost() {
        for (int lasts = 9; lasts <= 11; lasts++) {
            SubtitleStyles x = new SubtitleStyles();
            Due.line(x, "{k2}a{k" + (lasts - 2) + "}b", 30, 40, -1);
            d.due("what they last", x.about(0, 6), lasts);
            d.due(lasts + " of 10", x.about(0, 7), lasts <= 10 ? 1 : 0);
        }
        for (int lasts = 0; lasts <= 2; lasts++) {
            SubtitleStyles x = new SubtitleStyles();
            Due.line(x, "{k" + lasts + "}", 99999, 100000, -1);
            d.due(lasts + " of 1", x.about(0, 7), lasts <= 1 ? 1 : 0);
        }
    }

    private static void heightsOfLines() {
        SubtitleStyles x = new SubtitleStyles();
        x.style(-1);
        x.setStyle(0, 0, 60);
        String[] texts = {"", "{s70}", "{s70}a", "{s50}a", "a{s59}b", "a{s60}b", "a{s61}b", "{s1}a", "{s99}a", "a{s99}",
            "{s1}a{s2}b{s1}c", "{r}{s70}{r1}a", "{s99}{k1}{r}"};
        int[] heights = {60, 60, 70, 50, 60, 60, 61, 1, 99, 60, 2, 20, 60};
        for (int i = 0; i < texts.length; i++) {
            Due.line(x, texts[i], i, i + 1, 0);
            d.due("the height of " + texts[i], x.about(i, 8), heights[i]);
        }
        int[] less = {5, 5, 70, 50, 59, 60, 61, 1, 99, 5, 2, 20, 5};
        x.setStyle(0, 0, 5);
        for (int i = 0; i < texts.length; i++) {
            d.due("the height of " + texts[i] + " when its style's is 5", x.about(i, 8), less[i]);
        }
    }

    /** Two lines of the heights 20 and 30, whose offsets tell which of them was placed first. */
    private static void placedByBeginnings() {
        for (int later = -1; later <= 1; later++) {
            SubtitleStyles x = new SubtitleStyles();
            Due.line(x, "a", 50, 60, -1);
            Due.line(x, "{s30}b", 50 + later, 60, -1);
            d.due("the line 0, the other later by " + later, x.about(0, 9), later < 0 ? 40 : 10);
            d.due("the line 1, later by " + later, x.about(1, 9), later < 0 ? 10 : 30);
        }
        for (int order = 0; order < 256; order++) {
            placesFour(new int[] {order & 3, order >> 2 & 3, order >> 4 & 3, order >> 6});
        }
        SubtitleStyles x = new SubtitleStyles();
        for (int i = 0; i < 16; i++) {
            x.line(0, 1, -1);
        }
        for (int i = 0; i < 16; i++) {
            d.due("sixteen of equal beginnings, " + i, x.about(i, 9), 10 + 20 * i);
        }
        SubtitleStyles y = new SubtitleStyles();
        for (int i = 0; i < 16; i++) {
            y.line(15 - i, 100, -1);
        }
        for (int i = 0; i < 16; i++) {
            d.due("sixteen, each before the one ahead of it, " + i, y.about(i, 9), 10 + 20 * (15 - i));
        }
    }

    /** Four lines with these beginnings: each is above those that begin before, or are equal and ahead of it. */
    private static void placesFour(int[] begins) {
        SubtitleStyles x = new SubtitleStyles();
        for (int begin : begins) {
            x.line(begin, 10, -1);
        }
        for (int i = 0; i < 4; i++) {
            int before = 0;
            for (int other = 0; other < 4; other++) {
                if (begins[other] < begins[i] || begins[other] == begins[i] && other < i) {
                    before++;
                }
            }
            String call = begins[0] + ", " + begins[1] + ", " + begins[2] + ", " + begins[3] + ": the line " + i;
            d.due("beginnings " + call, x.about(i, 9), 10 + 20 * before);
            d.due("beginnings " + call + " is shown", x.shown(9, before), i);
        }
    }

    private static void stillShownAtTheBeginning() {
        for (int gap = -1; gap <= 1; gap++) {
            SubtitleStyles x = new SubtitleStyles();
            Due.line(x, "a", 50, 60, -1);
            Due.line(x, "b", 60 + gap, 70, -1);
            d.due("begins " + gap + " behind the end", x.about(1, 9), gap < 0 ? 30 : 10);
            d.due("the first one", x.about(0, 9), 10);
        }
        SubtitleStyles x = new SubtitleStyles();
        x.style(-1);
        x.setStyle(0, 4, 1);
        Due.line(x, "a", 50, 60, -1);
        Due.line(x, "b", 59, 70, 0);
        d.due("of another group", x.about(1, 9), 10);
        x.setStyle(0, 4, 0);
        d.due("of the same group", x.about(1, 9), 30);
    }

    private static void unitsInCommon() {
        // The first line covers the units from 50 to 69.
        for (int height = 9; height <= 11; height++) {
            SubtitleStyles x = new SubtitleStyles();
            Due.line(x, "a", 0, 10, -1);
            x.change(0, 1, 50);
            Due.line(x, "{s" + height + "}b", 0, 10, -1);
            x.change(1, 1, 40);
            d.due("from 40, " + height + " high", x.about(1, 9), height <= 10 ? 40 : 70);
        }
        for (int margin = 68; margin <= 71; margin++) {
            SubtitleStyles x = new SubtitleStyles();
            Due.line(x, "a", 0, 10, -1);
            x.change(0, 1, 50);
            Due.line(x, "{s1}b", 0, 10, -1);
            x.change(1, 1, margin);
            d.due("one unit from " + margin, x.about(1, 9), margin < 70 ? 70 : margin);
        }
        for (int margin = 48; margin <= 51; margin++) {
            SubtitleStyles x = new SubtitleStyles();
            Due.line(x, "a", 0, 10, -1);
            x.change(0, 1, 50);
            Due.line(x, "{s1}b", 0, 10, -1);
            x.change(1, 1, margin);
            d.due("one unit from " + margin, x.about(1, 9), margin < 50 ? margin : 70);
        }
    }

    private static void smallestOffset() {
        // Units 10 to 29 and 40 to 59 are taken, and those between them free.
        for (int height = 9; height <= 11; height++) {
            SubtitleStyles x = new SubtitleStyles();
            Due.line(x, "a", 0, 10, -1);
            Due.line(x, "b", 0, 10, -1);
            x.change(1, 1, 40);
            Due.line(x, "{s" + height + "}c", 0, 10, -1);
            d.due("into a gap of 10, " + height + " high", x.about(2, 9), height <= 10 ? 30 : 60);
            x.change(2, 1, 0);
            d.due("below all, " + height + " high", x.about(2, 9), height <= 10 ? 0 : 60);
        }
        SubtitleStyles x = new SubtitleStyles();
        Due.line(x, "a", 0, 10, -1);
        d.due("its margin if all is free", x.about(0, 9), 10);
        x.change(0, 1, 0);
        d.due("the margin 0", x.about(0, 9), 0);
        x.change(0, 1, 200);
        d.due("the margin 200", x.about(0, 9), 200);
        // Placed first, the higher one is the first that is looked at and pushes again at last.
        SubtitleStyles y = new SubtitleStyles();
        for (int i = 0; i < 8; i++) {
            Due.line(y, "a", 0, 10, -1);
            y.change(i, 1, 200 - 20 * i);
        }
        Due.line(y, "b", 1, 10, -1);
        y.change(8, 1, 60);
        d.due("pushed by eight, the highest one placed first", y.about(8, 9), 220);
    }

    private static void keepsItsOffset() {
        SubtitleStyles x = new SubtitleStyles();
        Due.line(x, "a", 0, 10, -1);
        Due.line(x, "b", 9, 100, -1);
        Due.line(x, "c", 10, 100, -1);
        d.due("placed above a line that ends at once", x.about(1, 9), 30);
        d.due("the next one below it", x.about(2, 9), 10);
        d.due("it keeps its offset, and comes second", x.shown(50, 1), 1);
        d.due("behind the lower one", x.shown(50, 0), 2);
        SubtitleStyles y = new SubtitleStyles();
        Due.line(y, "a", 0, 100, -1);
        Due.line(y, "{s99}b", 1, 100, -1);
        d.due("a later one does not push", y.about(0, 9), 10);
        d.due("it is pushed", y.about(1, 9), 30);
    }

    private static void heightOfTheScreen() {
        SubtitleStyles x = new SubtitleStyles();
        Due.line(x, "{s99}a", 0, 10, -1);
        x.change(0, 1, 200);
        d.due("299 of 300", x.about(0, 11), 0);
        x.setHeight(299);
        d.due("299 of 299", x.about(0, 11), 0);
        x.setHeight(298);
        d.due("299 of 298", x.about(0, 11), 1);
        d.due("49", x.setHeight(49), -1);
        d.due("50", x.setHeight(50), 298);
        d.due("51", x.setHeight(51), 50);
        d.due("1999", x.setHeight(1999), 51);
        d.due("2000", x.setHeight(2000), 1999);
        d.due("2001", x.setHeight(2001), -1);
        d.due("2000 stays", x.setHeight(300), 2000);
        Due.line(x, "{s1}b", 0, 10, -1);
        x.change(1, 1, 200);
        d.due("above the first one", x.about(1, 9), 299);
        d.due("300 of 300", x.about(1, 11), 0);
        Due.line(x, "{s1}c", 0, 10, -1);
        x.change(2, 1, 200);
        d.due("301 of 300", x.about(2, 11), 1);
        SubtitleStyles y = new SubtitleStyles();
        d.due("300 at first", y.setHeight(50), 300);
    }

    private static void eightyCharacters() {
        SubtitleStyles x = new SubtitleStyles();
        d.due("initially empty", x.clear(), 0);
        for (int i = 1; i <= 79; i++) {
            d.due("the character " + i, x.type('a'), i);
        }
        d.due("the 80th", x.type('y'), 80);
        d.due("the 81st", x.type('z'), -3);
        d.due("the 81st again", x.type('z'), -3);
        d.due("all of them", x.line(0, 1, -1), 0);
        d.due("80 signs", x.about(0, 4), 80);
        d.due("the last but one", x.sign(0, 78, 0), 'a');
        d.due("the last one", x.sign(0, 79, 0), 'y');
        d.due("none behind it", x.sign(0, 80, 0), -1);
        d.due("empty then", x.clear(), 0);
        for (int i = 1; i <= 80; i++) {
            x.type('b');
        }
        d.due("clear() of 80", x.clear(), 80);
        d.due("room again", x.type('c'), 1);
    }

    private static void codesOfCharacters() {
        SubtitleStyles x = new SubtitleStyles();
        d.due("the code 31", x.type(31), -1);
        d.due("the code 32", x.type(32), 1);
        d.due("the code 33", x.type(33), 2);
        d.due("the code 124", x.type(124), 3);
        d.due("the code 125", x.type(125), 4);
        d.due("the code 126", x.type(126), 5);
        d.due("the code 127", x.type(127), -1);
        d.due("the text", x.line(0, 1, -1), 0);
        int[] codes = {32, 33, 124, 125, 126};
        for (int i = 0; i < 5; i++) {
            d.due("the sign " + i, x.sign(0, i, 0), codes[i]);
        }
    }

    private static void errorPlaces() {
        String ahead = "";
        for (int length = 0; length <= 70; length += 7) {
            d.due(length + " ahead of {", placeOf(ahead + "{"), -101 - length);
            d.due(length + " ahead of {s", placeOf(ahead + "{s"), -102 - length);
            d.due(length + " ahead of {s1", placeOf(ahead + "{s1"), -103 - length);
            d.due(length + " ahead of {s1}", placeOf(ahead + "{s1}"), 0);
            d.due(length + " ahead of {x}", placeOf(ahead + "{x}"), -101 - length);
            d.due(length + " ahead of {sx}", placeOf(ahead + "{sx}"), -102 - length);
            d.due(length + " ahead of {s1x}", placeOf(ahead + "{s1x}"), -103 - length);
            d.due(length + " ahead of {s00}", placeOf(ahead + "{s00}"), -102 - length);
            d.due(length + " ahead of {s1111}", placeOf(ahead + "{s1111}"), -102 - length);
            d.due(length + " ahead of {s11111}", placeOf(ahead + "{s11111}"), -106 - length);
            ahead += "a{k1}}b";
        }
        String most = "a".repeat(79);
        d.due("79 characters and {", placeOf(most + "{"), -180);
        d.due("79 characters and }", placeOf(most + "}"), 0);
        d.due("80 characters that end with a tag", placeOf("a".repeat(76) + "{s0}"), -178);
    }

    private static void firstOfSeveralErrorPlaces() {
        d.due("two misplaced", placeOf("{x}{y}"), -101);
        d.due("misplaced, and ends within a tag", placeOf("{x}{"), -101);
        d.due("two out of range", placeOf("{s0}{c8}"), -102);
        d.due("the second of three out of range", placeOf("{s1}{c8}{b2}"), -106);
        d.due("out of range ahead of a misplaced one", placeOf("{s0}{x}"), -105);
        d.due("out of range ahead of an end within a tag", placeOf("{s0}a{"), -106);
        d.due("out of range ahead of an end within its number", placeOf("{s0}{s0"), -107);
        d.due("out of range within a tag that does not end", placeOf("{s100"), -105);
        d.due("out of range ahead of a fifth digit", placeOf("{s99999}"), -106);
        d.due("out of range and a wrong sign behind it", placeOf("{s100x"), -105);
    }

    private static void fiveStates() {
        for (int acts = 0; acts <= 7; acts++) {
            SubtitleStyles x = new SubtitleStyles();
            for (int i = 1; i <= acts; i++) {
                x.setHeight(100 + i);
            }
            int kept = acts < 5 ? acts : 5;
            for (int i = 1; i <= kept; i++) {
                d.due("undo() " + i + " of " + acts + " acts", x.undo(), kept - i);
            }
            d.due("undo() behind " + acts + " acts", x.undo(), -9);
            d.due("the state then", x.setHeight(50), acts <= 5 ? 300 : 100 + acts - 5);
        }
        SubtitleStyles x = new SubtitleStyles();
        for (int i = 0; i < 100; i++) {
            x.setHeight(100 + i);
            x.setHeight(1000 + i);
            d.due("undo() each time, " + i, x.undo(), i < 4 ? i + 1 : 4);
        }
        d.due("the latest height", x.setHeight(77), 199);
    }

    private static void historyHasAllButTheBuffer() {
        SubtitleStyles x = new SubtitleStyles();
        Due.type(x, "abc");
        d.due("a line", x.line(0, 10, -1), 0);
        d.due("nothing in the buffer", x.type('d'), 1);
        d.due("undo()", x.undo(), 0);
        d.due("no line", x.lines(), 0);
        d.due("the buffer as it is now", x.type('e'), 2);
        d.due("its text", x.line(0, 10, -1), 0);
        d.due("the first sign", x.sign(0, 0, 0), 'd');
        d.due("the second sign", x.sign(0, 1, 0), 'e');
        d.due("clear() is no act", x.clear(), 0);
        d.due("type() is no act", x.type('f'), 1);
        d.due("one state", x.undo(), 0);
        d.due("and no more", x.undo(), -9);
        d.due("the buffer is still there", x.clear(), 1);
    }
}
