/** Promises 28 and 29: undo and the fingerprint; and which calls are acts. */
public final class HistoryTest {
    private static final Due d = new Due();

    public static void main(String[] args) {
        undoesNothing();
        keepsFiveStates();
        keepsWhatChangesNothing();
        leavesTheBuffer();
        undoesEachAct();
        keepsNoErrors();
        keepsNoQuestions();
        fingerprintsNothing();
        fingerprintsTheNumbers();
        d.end();
    }

    private static void undoesNothing() {
        SubtitleStyles x = new SubtitleStyles();
        d.due("28: of none", x.undo(), -9);
        x.setHeight(100);
        d.due("28: of one", x.undo(), 0);
        d.due("28: of none again", x.undo(), -9);
        d.due("28: as before", x.setHeight(100), 300);
    }

    private static void keepsFiveStates() {
        SubtitleStyles x = new SubtitleStyles();
        for (int i = 1; i <= 7; i++) {
            x.setHeight(100 + i);
        }
        for (int i = 0; i < 5; i++) {
            d.due("28: undo()", x.undo(), 4 - i);
        }
        d.due("28: no sixth one", x.undo(), -9);
        d.due("28: the oldest ones are dropped", x.setHeight(300), 102);
        for (int i = 1; i <= 4; i++) {
            x.setHeight(200 + i);
        }
        d.due("28: undo() of five", x.undo(), 4);
        x.setHeight(250);
        x.setHeight(260);
        d.due("28: undo() of five again", x.undo(), 4);
        d.due("28: the height", x.setHeight(261), 250);
    }

    private static void keepsWhatChangesNothing() {
        SubtitleStyles x = new SubtitleStyles();
        x.style(-1);
        x.setHeight(300);
        x.setParent(0, -1);
        x.setStyle(0, 0, -1);
        d.due("28: they were acts", x.undo(), 3);
        x.flatten();
        x.flatten();
        d.due("28: flatten(), too", x.undo(), 4);
        d.due("28: of a flat one", x.flatten(), 0);
    }

    private static void leavesTheBuffer() {
        SubtitleStyles x = new SubtitleStyles();
        Due.type(x, "abc");
        x.style(-1);
        Due.type(x, "de");
        d.due("28: undo()", x.undo(), 0);
        d.due("28: the buffer stays", x.line(0, 10, -1), 0);
        d.due("28: its signs", x.about(0, 4), 5);
        Due.type(x, "x");
        d.due("28: undo() of line", x.undo(), 0);
        d.due("28: the buffer is not filled again", x.clear(), 1);
        d.due("28: nor is clear() an act", x.undo(), -9);
    }

    private static SubtitleStyles sample() {
        SubtitleStyles x = new SubtitleStyles();
        x.style(-1);
        x.style(0);
        x.style(-1);
        x.setStyle(0, 0, 40);
        x.setStyle(1, 1, 3);
        Due.line(x, "{k3}ab{r1}c{k4}d", 5, 25, 1);
        Due.line(x, "{c3}ef", 6, 30, -1);
        Due.line(x, "gh", 7, 28, 0);
        x.change(1, 1, 33);
        return x;
    }

    private static int act(SubtitleStyles x, int which) {
        switch (which) {
            case 0:
                return x.style(1);
            case 1:
                return x.setParent(0, 2);
            case 2:
                return x.setStyle(1, 4, 2);
            case 3:
                return x.unstyle();
            case 4:
                return x.flatten();
            case 5:
                return Due.line(x, "new", 0, 50, 1);
            case 6:
                return x.remove(0);
            case 7:
                return x.change(0, 0, 2);
            case 8:
                return x.change(1, 1, 2);
            case 9:
                return x.shift(1, 20);
            case 10:
                return x.setHeight(60);
            default:
                return x.fit(0);
        }
    }

    private static void undoesEachAct() {
        for (int which = 0; which < 12; which++) {
            SubtitleStyles x = sample();
            x.setHeight(70);
            int height = 70;
            long before = x.fingerprint();
            int answer = act(x, which);
            String name = "28: the act " + which + " (" + answer + ")";
            boolean changed = x.fingerprint() != before || which == 10;
            d.due(name + " changes something", changed ? 1 : 0, 1);
            d.due(name + " is undone", x.undo(), 4);
            d.due(name + " leaves the fingerprint", x.fingerprint(), before);
            d.due(name + " leaves the height", x.setHeight(70), height);
        }
    }

    private static void keepsNoErrors() {
        SubtitleStyles x = sample();
        x.setParent(1, 2);
        long before = x.fingerprint();
        x.style(7);
        x.setParent(2, 1);
        x.setParent(0, 0);
        x.setParent(0, 3);
        x.setStyle(0, 0, 0);
        x.setStyle(0, 9, 1);
        x.unstyle();
        x.line(9, 9, -1);
        Due.line(x, "{", 0, 1, -1);
        x.remove(9);
        x.change(0, 1, 999);
        x.shift(0, -99999);
        x.shift(0, 999999);
        x.setHeight(0);
        x.fit(9);
        x.fit(1);
        d.due("28: after errors", x.fingerprint(), before);
        d.due("28: undo() after errors", x.undo(), 4);
        d.due("28: it undoes the act before them", x.styleAt(1, 6), 0);
    }

    private static void keepsNoQuestions() {
        SubtitleStyles x = new SubtitleStyles();
        x.style(-1);
        Due.line(x, "{k1}a", 0, 10, 0);
        x.styleAt(0, 0);
        x.valueOf(0, 0);
        x.from(0, 0);
        x.styles();
        x.about(0, 9);
        x.lines();
        x.sign(0, 0, 0);
        x.syllable(0, 0, 0);
        x.shows(0, 0, 0);
        x.shown(0, 0);
        x.crowd();
        x.sung(0);
        x.unlike();
        x.fingerprint();
        x.type('a');
        x.clear();
        d.due("28: questions are no acts", x.undo(), 1);
        d.due("28: the line is undone", x.lines(), 0);
        x.shift(0, 1);
        x.style(5);
        x.unstyle();
        d.due("28: nor are errors", x.undo(), 1);
        d.due("28: the style is there", x.styles(), 1);
    }

    private static void fingerprintsNothing() {
        SubtitleStyles x = new SubtitleStyles();
        // styles() 0, lines() 0, crowd() -9, unlike() 0
        long due = 233L * 31 * 31 * 31 * 31 - 9 * 31;
        d.due("29: of a new object", x.fingerprint(), due);
        x.type('a');
        x.setHeight(400);
        d.due("29: nothing of the buffer or the height", x.fingerprint(), due);
    }

    private static void fingerprintsTheNumbers() {
        SubtitleStyles x = sample();
        x.setHeight(50);
        long due = 233;
        due = 31 * due + x.styles();
        for (int style = 0; style < x.styles(); style++) {
            for (int what = 0; what <= 8; what++) {
                due = 31 * due + x.styleAt(style, what);
            }
            for (int property = 0; property <= 5; property++) {
                due = 31 * due + x.valueOf(style, property);
            }
        }
        due = 31 * due + x.lines();
        for (int line = 0; line < x.lines(); line++) {
            for (int what = 0; what <= 11; what++) {
                due = 31 * due + x.about(line, what);
            }
            for (int sign = 0; sign < x.about(line, 4); sign++) {
                for (int what = 0; what <= 5; what++) {
                    due = 31 * due + x.sign(line, sign, what);
                }
            }
            for (int syllable = 0; syllable < x.about(line, 5); syllable++) {
                for (int what = 0; what <= 2; what++) {
                    due = 31 * due + x.syllable(line, syllable, what);
                }
            }
        }
        due = 31 * due + x.crowd();
        due = 31 * due + x.unlike();
        d.due("29: of a sample", x.fingerprint(), due);
        d.due("29: again", x.fingerprint(), due);
    }
}
