/** Promises 1 to 10: a new object, and the calls about styles. */
public final class StylesTest {
    private static final Due d = new Due();
    private static final int MIN = Integer.MIN_VALUE;
    private static final int MAX = Integer.MAX_VALUE;

    public static void main(String[] args) {
        newObject();
        addsStyles();
        setsParents();
        setsValues();
        removesStyles();
        keepsStylesThatAreUsed();
        forgetsRemovedValues();
        flattens();
        tellsNumbers();
        tellsValues();
        tellsSources();
        goesUpTenStyles();
        d.end();
    }

    private static void newObject() {
        SubtitleStyles x = new SubtitleStyles();
        d.due("1: styles()", x.styles(), 0);
        d.due("1: lines()", x.lines(), 0);
        d.due("1: clear()", x.clear(), 0);
        d.due("1: undo()", x.undo(), SubtitleStyles.NONE);
        d.due("1: setHeight(300)", x.setHeight(300), 300);
        int[] basic = {20, 7, 1, 0, 0, 10};
        for (int p = 0; p < 6; p++) {
            d.due("1: valueOf(-1, " + p + ")", x.valueOf(-1, p), basic[p]);
        }
        d.due("1: BAD", SubtitleStyles.BAD, -1);
        d.due("1: STATE", SubtitleStyles.STATE, -2);
        d.due("1: FULL", SubtitleStyles.FULL, -3);
        d.due("1: NONE", SubtitleStyles.NONE, -9);
    }

    private static void addsStyles() {
        SubtitleStyles x = new SubtitleStyles();
        d.due("2: style(0) of none", x.style(0), -1);
        d.due("2: style(-2)", x.style(-2), -1);
        d.due("2: style(MIN)", x.style(MIN), -1);
        d.due("2: style(MAX)", x.style(MAX), -1);
        for (int i = 0; i < 10; i++) {
            d.due("2: style(" + (i - 1) + ")", x.style(i - 1), i);
            d.due("10: styles()", x.styles(), i + 1);
        }
        for (int p = 0; p < 6; p++) {
            d.due("2: styleAt(9, " + p + ")", x.styleAt(9, p), -1);
        }
        d.due("2: styleAt(9, 6)", x.styleAt(9, 6), 8);
        d.due("2: style(-1) with ten", x.style(-1), -3);
        d.due("2: style(9) with ten", x.style(9), -3);
        d.due("2: style(10) with ten is BAD first", x.style(10), -1);
        d.due("2: styles() after errors", x.styles(), 10);
    }

    private static void setsParents() {
        SubtitleStyles x = new SubtitleStyles();
        d.due("3: setParent(0, -1) of none", x.setParent(0, -1), -1);
        d.due("3: and it was no act", x.undo(), -9);
        for (int i = 0; i < 4; i++) {
            x.style(-1);
        }
        d.due("3: setParent(1, 0)", x.setParent(1, 0), -1);
        d.due("3: setParent(2, 1)", x.setParent(2, 1), -1);
        d.due("3: setParent(3, 2)", x.setParent(3, 2), -1);
        d.due("3: setParent(3, 2) again", x.setParent(3, 2), 2);
        d.due("3: setParent(3, 3)", x.setParent(3, 3), -2);
        d.due("3: setParent(2, 3)", x.setParent(2, 3), -2);
        d.due("3: setParent(0, 3)", x.setParent(0, 3), -2);
        d.due("3: setParent(0, 4)", x.setParent(0, 4), -1);
        d.due("3: setParent(0, -2)", x.setParent(0, -2), -1);
        d.due("3: setParent(4, 0)", x.setParent(4, 0), -1);
        d.due("3: setParent(-1, 0)", x.setParent(-1, 0), -1);
        d.due("3: setParent(MIN, MAX)", x.setParent(MIN, MAX), -1);
        d.due("3: styleAt(0, 6) after errors", x.styleAt(0, 6), -1);
        d.due("3: setParent(3, 0)", x.setParent(3, 0), 2);
        d.due("3: setParent(2, 3) now", x.setParent(2, 3), 1);
        d.due("3: styleAt(2, 7)", x.styleAt(2, 7), 2);
        d.due("3: setParent(2, -1)", x.setParent(2, -1), 3);
        d.due("3: styleAt(2, 6)", x.styleAt(2, 6), -1);
    }

    private static void setsValues() {
        int[] least = {1, 0, 0, 0, 0, 0};
        int[] greatest = {99, 7, 7, 1, 2, 200};
        SubtitleStyles x = new SubtitleStyles();
        d.due("4: setStyle(0, 0, 5) of none", x.setStyle(0, 0, 5), -1);
        d.due("4: and it was no act", x.undo(), -9);
        x.style(-1);
        x.style(0);
        for (int p = 0; p < 6; p++) {
            String call = "4: setStyle(1, " + p + ", ";
            d.due(call + "least)", x.setStyle(1, p, least[p]), -1);
            d.due(call + "greatest)", x.setStyle(1, p, greatest[p]), least[p]);
            d.due(call + "greatest + 1)", x.setStyle(1, p, greatest[p] + 1), -1);
            d.due(call + "-2)", x.setStyle(1, p, -2), -1);
            d.due(call + "MIN)", x.setStyle(1, p, MIN), -1);
            d.due(call + "MAX)", x.setStyle(1, p, MAX), -1);
            d.due("4: styleAt(1, " + p + ")", x.styleAt(1, p), greatest[p]);
            d.due("4: styleAt(0, " + p + ")", x.styleAt(0, p), -1);
            d.due(call + "-1)", x.setStyle(1, p, -1), greatest[p]);
            d.due("4: styleAt(1, " + p + ") then", x.styleAt(1, p), -1);
        }
        d.due("4: size 0", x.setStyle(1, 0, 0), -1);
        d.due("4: size 0 changed nothing", x.styleAt(1, 0), -1);
        d.due("4: property 6", x.setStyle(1, 6, 1), -1);
        d.due("4: property -1", x.setStyle(1, -1, 1), -1);
        d.due("4: style 2", x.setStyle(2, 0, 1), -1);
        d.due("4: style -1", x.setStyle(-1, 0, 1), -1);
        d.due("4: style MAX", x.setStyle(MAX, MAX, 1), -1);
        x.setStyle(0, 5, 150);
        d.due("4: valueOf(1, 5)", x.valueOf(1, 5), 150);
    }

    private static void removesStyles() {
        SubtitleStyles x = new SubtitleStyles();
        d.due("5: unstyle() of none", x.unstyle(), -2);
        x.style(-1);
        x.style(0);
        x.style(0);
        d.due("5: unstyle()", x.unstyle(), 2);
        d.due("5: styles()", x.styles(), 2);
        d.due("5: styleAt(2, 0)", x.styleAt(2, 0), -1);
        d.due("5: styleAt(0, 8)", x.styleAt(0, 8), 1);
        d.due("5: unstyle() again", x.unstyle(), 1);
        d.due("5: unstyle() to none", x.unstyle(), 0);
        d.due("5: unstyle() of none again", x.unstyle(), -2);
    }

    private static void keepsStylesThatAreUsed() {
        SubtitleStyles x = new SubtitleStyles();
        x.style(-1);
        x.style(-1);
        x.setParent(0, 1);
        d.due("5: the last one is a parent", x.unstyle(), -2);
        x.setParent(0, -1);
        Due.line(x, "a", 0, 1, -1);
        Due.line(x, "b", 0, 1, 1);
        d.due("5: the last one is a line's", x.unstyle(), -2);
        d.due("5: styles()", x.styles(), 2);
        x.change(1, 0, 0);
        d.due("5: free again", x.unstyle(), 1);
        d.due("5: a line's again", x.unstyle(), -2);
        x.change(0, 0, 0);
        x.remove(1);
        d.due("5: the first line's", x.unstyle(), -2);
        x.remove(0);
        Due.line(x, "{r0}c", 0, 1, -1);
        d.due("5: a tag does not keep it", x.unstyle(), 0);
    }

    private static void forgetsRemovedValues() {
        SubtitleStyles x = new SubtitleStyles();
        x.style(-1);
        x.style(0);
        x.setStyle(1, 0, 50);
        x.unstyle();
        d.due("2: style(-1) after unstyle()", x.style(-1), 1);
        d.due("2: it has no value", x.styleAt(1, 0), -1);
        d.due("2: and no parent", x.styleAt(1, 6), -1);
    }

    private static void flattens() {
        SubtitleStyles x = new SubtitleStyles();
        d.due("6: flatten() of none", x.flatten(), 0);
        d.due("6: it was an act", x.undo(), 0);
        for (int i = 0; i < 3; i++) {
            x.style(-1);
        }
        // Parents come later than their children here.
        x.setParent(0, 1);
        x.setParent(1, 2);
        x.setStyle(2, 0, 33);
        x.setStyle(1, 1, 4);
        x.setStyle(0, 5, 99);
        d.due("6: flatten()", x.flatten(), 15);
        int[][] flat = {{33, 4, 1, 0, 0, 99}, {33, 4, 1, 0, 0, 10}, {33, 7, 1, 0, 0, 10}};
        for (int s = 0; s < 3; s++) {
            for (int p = 0; p < 6; p++) {
                d.due("6: styleAt(" + s + ", " + p + ")", x.styleAt(s, p), flat[s][p]);
                d.due("6: from(" + s + ", " + p + ")", x.from(s, p), s);
            }
            d.due("6: styleAt(" + s + ", 6)", x.styleAt(s, 6), -1);
            d.due("6: styleAt(" + s + ", 8)", x.styleAt(s, 8), 0);
        }
        d.due("6: flatten() again", x.flatten(), 0);
        x.setStyle(2, 0, 44);
        d.due("6: no longer a parent's", x.valueOf(0, 0), 33);
        SubtitleStyles y = new SubtitleStyles();
        y.style(-1);
        y.style(-1);
        y.style(0);
        y.unstyle();
        d.due("6: not those of a removed one", y.flatten(), 12);
        d.due("6: basic values", y.styleAt(0, 0), 20);
        d.due("6: basic values of the second", y.styleAt(1, 0), 20);
    }

    private static void tellsNumbers() {
        SubtitleStyles x = new SubtitleStyles();
        d.due("7: styleAt(0, 0) of none", x.styleAt(0, 0), -1);
        x.style(-1);
        x.style(0);
        x.style(1);
        x.style(0);
        x.setStyle(2, 3, 0);
        d.due("7: a value 0", x.styleAt(2, 3), 0);
        d.due("7: parent", x.styleAt(2, 6), 1);
        d.due("7: no parent", x.styleAt(0, 6), -1);
        d.due("7: depth of 2", x.styleAt(2, 7), 2);
        d.due("7: depth of 3", x.styleAt(3, 7), 1);
        d.due("7: depth of 0", x.styleAt(0, 7), 0);
        d.due("7: children of 0", x.styleAt(0, 8), 2);
        d.due("7: children of 1", x.styleAt(1, 8), 1);
        d.due("7: children of 2", x.styleAt(2, 8), 0);
        d.due("7: what 9", x.styleAt(0, 9), -1);
        d.due("7: what -1", x.styleAt(2, -1), -1);
        d.due("7: style 4", x.styleAt(4, 7), -1);
        d.due("7: style -1", x.styleAt(-1, 8), -1);
        d.due("7: MIN, MAX", x.styleAt(MIN, MAX), -1);
        for (int i = 4; i < 10; i++) {
            x.style(i == 4 ? 2 : i - 1);
        }
        d.due("7: depth of the deepest", x.styleAt(9, 7), 8);
    }

    private static void tellsValues() {
        SubtitleStyles x = new SubtitleStyles();
        d.due("8: valueOf(0, 0) of none", x.valueOf(0, 0), -1);
        x.style(-1);
        x.style(0);
        x.setStyle(0, 0, 60);
        d.due("8: own", x.valueOf(0, 0), 60);
        d.due("8: a parent's", x.valueOf(1, 0), 60);
        d.due("8: basic", x.valueOf(1, 1), 7);
        d.due("8: basic values", x.valueOf(-1, 0), 20);
        x.setStyle(1, 0, 61);
        d.due("8: own before a parent's", x.valueOf(1, 0), 61);
        x.setStyle(1, 0, -1);
        d.due("8: a parent's again", x.valueOf(1, 0), 60);
        x.setStyle(1, 1, 0);
        d.due("8: an own 0", x.valueOf(1, 1), 0);
        d.due("8: style -2", x.valueOf(-2, 0), -1);
        d.due("8: style 2", x.valueOf(2, 0), -1);
        d.due("8: property -1", x.valueOf(0, -1), -1);
        d.due("8: property 6", x.valueOf(0, 6), -1);
        d.due("8: MAX, MIN", x.valueOf(MAX, MIN), -1);
    }

    private static void tellsSources() {
        SubtitleStyles x = new SubtitleStyles();
        d.due("9: from(0, 0) of none", x.from(0, 0), -1);
        x.style(-1);
        x.style(0);
        x.style(1);
        x.setStyle(0, 0, 60);
        x.setStyle(1, 2, 0);
        d.due("9: from(0, 0)", x.from(0, 0), 0);
        d.due("9: from(2, 0)", x.from(2, 0), 0);
        d.due("9: from(2, 2)", x.from(2, 2), 1);
        d.due("9: from(0, 2)", x.from(0, 2), -9);
        d.due("9: from(2, 5)", x.from(2, 5), -9);
        d.due("9: style -1", x.from(-1, 0), -1);
        d.due("9: style 3", x.from(3, 0), -1);
        d.due("9: property -1", x.from(0, -1), -1);
        d.due("9: property 6", x.from(0, 6), -1);
        d.due("9: MIN, MAX", x.from(MIN, MAX), -1);
    }

    private static void goesUpTenStyles() {
        SubtitleStyles x = new SubtitleStyles();
        for (int i = 0; i < 10; i++) {
            x.style(i - 1);
        }
        x.setStyle(0, 0, 88);
        d.due("3: a round of ten", x.setParent(0, 9), -2);
        d.due("7: nine above", x.styleAt(9, 7), 9);
        d.due("8: from the highest one", x.valueOf(9, 0), 88);
        d.due("9: from the highest one", x.from(9, 0), 0);
        d.due("9: basic above ten", x.from(9, 1), -9);
        Due.line(x, "a{r}b", 0, 1, 9);
        d.due("20: from the highest one", x.sign(0, 1, 1), 88);
    }
}
