/** Promises 23 to 27: what is shown and sung at a time, and the comparison. */
public final class TimesTest {
    private static final Due d = new Due();
    private static final int MIN = Integer.MIN_VALUE;
    private static final int MAX = Integer.MAX_VALUE;

    public static void main(String[] args) {
        showsColors();
        findsShownLines();
        ordersShownLines();
        findsTheCrowd();
        tellsHowMuchIsSung();
        comparesTwoWays();
        d.end();
    }

    private static void showsColors() {
        SubtitleStyles x = new SubtitleStyles();
        d.due("23: of none", x.shows(0, 0, 0), -1);
        Due.line(x, "a{k5}b{c2}{t3}c{k50}d{k1}e", 10, 40, -1);
        d.due("23: before the line", x.shows(0, 1, 9), -9);
        d.due("23: at its end", x.shows(0, 1, 40), -9);
        d.due("23: MIN", x.shows(0, 1, MIN), -9);
        d.due("23: MAX", x.shows(0, 1, MAX), -9);
        d.due("23: no syllable", x.shows(0, 0, 39), 7);
        d.due("23: the first syllable at once", x.shows(0, 1, 10), 1);
        d.due("23: by a tag", x.shows(0, 2, 10), 3);
        d.due("23: not yet sung", x.shows(0, 3, 14), 2);
        d.due("23: sung from its beginning", x.shows(0, 3, 15), 3);
        d.due("23: sung to the end", x.shows(0, 3, 39), 3);
        d.due("23: begins behind the line", x.shows(0, 4, 39), 2);
        d.due("23: sign 5", x.shows(0, 5, 20), -1);
        d.due("23: sign -1", x.shows(0, -1, 20), -1);
        d.due("23: BAD before NONE", x.shows(0, 5, 9), -1);
        d.due("23: line 1", x.shows(1, 0, 20), -1);
        d.due("23: line -1", x.shows(-1, 0, 20), -1);
        d.due("23: MAX, MIN", x.shows(MAX, MIN, 20), -1);
    }

    private static void findsShownLines() {
        SubtitleStyles x = new SubtitleStyles();
        d.due("24: of none", x.shown(0, 0), -9);
        d.due("24: -1 of none", x.shown(0, -1), -1);
        Due.line(x, "a", 10, 20, -1);
        d.due("24: before", x.shown(9, 0), -9);
        d.due("24: at its beginning", x.shown(10, 0), 0);
        d.due("24: before its end", x.shown(19, 0), 0);
        d.due("24: at its end", x.shown(20, 0), -9);
        d.due("24: a second one", x.shown(10, 1), -9);
        d.due("24: i MAX", x.shown(10, MAX), -9);
        d.due("24: i MIN", x.shown(10, MIN), -1);
        d.due("24: i -1", x.shown(10, -1), -1);
        d.due("24: time MIN", x.shown(MIN, 0), -9);
        d.due("24: time MAX", x.shown(MAX, 0), -9);
    }

    private static void ordersShownLines() {
        SubtitleStyles x = new SubtitleStyles();
        x.style(-1);
        x.style(-1);
        x.setStyle(0, 4, 2);
        x.setStyle(1, 4, 1);
        Due.line(x, "a", 5, 20, 0);
        Due.line(x, "b", 6, 20, -1);
        Due.line(x, "c", 2, 20, -1);
        Due.line(x, "d", 3, 20, 1);
        Due.line(x, "e", 1, 4, -1);
        Due.line(x, "f", 4, 20, 1);
        x.change(5, 1, 0);
        // Bottom: e 10, c 30, b 10 (e has ended); middle: d 10, f 30; top: a 10.
        int[] due = {1, 2, 3, 5, 0, -9};
        for (int i = 0; i < 6; i++) {
            d.due("24: shown(10, " + i + ")", x.shown(10, i), due[i]);
        }
        int[] early = {4, 2, 3, -9};
        for (int i = 0; i < 4; i++) {
            d.due("24: shown(3, " + i + ")", x.shown(3, i), early[i]);
        }
        SubtitleStyles y = new SubtitleStyles();
        y.style(-1);
        y.setStyle(0, 4, 1);
        Due.line(y, "{s10}a", 2, 20, 0);
        Due.line(y, "{s10}b", 1, 20, 0);
        y.change(1, 1, 100);
        d.due("24: by offsets, not by beginnings", y.shown(5, 0), 0);
        d.due("24: the higher one", y.shown(5, 1), 1);
    }

    private static void findsTheCrowd() {
        SubtitleStyles x = new SubtitleStyles();
        d.due("25: of none", x.crowd(), -9);
        Due.line(x, "a", 50, 60, -1);
        d.due("25: of one", x.crowd(), 50);
        Due.line(x, "b", 10, 20, -1);
        d.due("25: the first of two", x.crowd(), 10);
        Due.line(x, "z", 30, 35, -1);
        d.due("25: the first of three", x.crowd(), 10);
        x.remove(2);
        Due.line(x, "c", 59, 70, -1);
        d.due("25: two at 59", x.crowd(), 59);
        Due.line(x, "d", 20, 30, -1);
        d.due("25: none at its end", x.crowd(), 59);
        Due.line(x, "e", 15, 25, -1);
        d.due("25: two at 15", x.crowd(), 15);
        Due.line(x, "f", 24, 25, -1);
        d.due("25: three at 24", x.crowd(), 24);
        x.remove(5);
        d.due("25: again", x.crowd(), 15);
    }

    private static void tellsHowMuchIsSung() {
        SubtitleStyles x = new SubtitleStyles();
        d.dueFloat("26: of none", x.sung(0), 0f);
        x.line(0, 100, -1);
        d.dueFloat("26: no signs", x.sung(0), 0f);
        Due.line(x, "a{k5}b{k1}c", 10, 20, -1);
        d.dueFloat("26: before", x.sung(9), 0f);
        d.dueFloat("26: one of three", x.sung(10), 1f / 3f);
        d.dueFloat("26: one of three at 14", x.sung(14), 1f / 3f);
        d.dueFloat("26: two of three", x.sung(15), 2f / 3f);
        d.dueFloat("26: at the end", x.sung(20), 0f);
        Due.line(x, "{k0}defg", 12, 20, -1);
        d.dueFloat("26: five of seven", x.sung(12), 5f / 7f);
        d.dueFloat("26: six of seven", x.sung(19), 6f / 7f);
        x.remove(1);
        d.dueFloat("26: all", x.sung(12), 1f);
        x.remove(0);
        d.dueFloat("26: all of the line 0", x.sung(12), 1f);
        d.dueFloat("26: MIN", x.sung(MIN), 0f);
        d.dueFloat("26: MAX", x.sung(MAX), 0f);
    }

    private static void comparesTwoWays() {
        SubtitleStyles x = new SubtitleStyles();
        d.due("27: of none", x.unlike(), 0);
        x.style(-1);
        x.style(-1);
        x.setParent(0, 1);
        x.setStyle(1, 0, 44);
        x.setStyle(0, 2, 6);
        Due.line(x, "a{r1}b{r5}c{c3}d{r}e", 0, 10, 0);
        Due.line(x, "a{r0}b", 0, 10, -1);
        d.due("27: the same", x.unlike(), 0);
        d.due("27: it does not flatten", x.styleAt(0, 6), 1);
        d.due("27: nor set values", x.styleAt(0, 0), -1);
        long before = x.fingerprint();
        x.unlike();
        d.due("27: nor change what signs are like", x.fingerprint(), before);
        int[] sizes = {44, 44, 20, 20, 44};
        x.flatten();
        for (int i = 0; i < 5; i++) {
            d.due("27: size behind flatten() of " + i, x.sign(0, i, 1), sizes[i]);
        }
        d.due("27: behind flatten()", x.unlike(), 0);
    }
}
