/** No call throws or fails to end, whatever its arguments are, also behind the 512th one. */
public final class WildTest {
    private static final int[] WILD = {
        Integer.MIN_VALUE, Integer.MIN_VALUE + 1, -1000000, -100001, -100000, -10, -9, -2, -1, 0, 1, 2, 3, 4, 5,
        6, 7, 8, 9, 10, 11, 12, 15, 16, 20, 30, 32, 48, 50, 57, 79, 80, 97, 99, 100, 107, 114, 115, 123, 125,
        126, 127, 200, 300, 2000, 9999, 10000, 99999, 100000, 100001, Integer.MAX_VALUE - 1, Integer.MAX_VALUE
    };
    private static final String TYPED = "{k5}{s9}{r}{r7}{k9999}{c1}{t2}{b1}abc";
    private static long seed = 1;

    private static int below(int bound) {
        seed = seed * 6364136223846793005L + 1442695040888963407L;
        return (int) ((seed >>> 33) % bound);
    }

    private static int any() {
        return below(2) == 0 ? below(16) - 1 : WILD[below(WILD.length)];
    }

    private static long call(SubtitleStyles x, int which, int a, int b, int c) {
        switch (which) {
            case 0:
                return x.style(a);
            case 1:
                return x.setParent(a, b);
            case 2:
                return x.setStyle(a, b, c);
            case 3:
                return x.unstyle();
            case 4:
                return x.flatten();
            case 5:
                return x.styleAt(a, b);
            case 6:
                return x.valueOf(a, b);
            case 7:
                return x.from(a, b);
            case 8:
                return x.type(a);
            case 9:
                return x.clear();
            case 10:
                return x.line(a, b, c);
            case 11:
                return x.remove(a);
            case 12:
                return x.change(a, b, c);
            case 13:
                return x.shift(a, b);
            case 14:
                return x.setHeight(a);
            case 15:
                return x.about(a, b);
            case 16:
                return x.sign(a, b, c);
            case 17:
                return x.syllable(a, b, c);
            case 18:
                return x.fit(a);
            case 19:
                return x.shows(a, b, c);
            case 20:
                return x.shown(a, b);
            case 21:
                return x.crowd();
            case 22:
                return (long) (x.sung(a) * 1000);
            case 23:
                return x.unlike();
            case 24:
                return x.undo();
            case 25:
                return x.fingerprint();
            case 26:
                Due.type(x, TYPED.substring(below(TYPED.length())));
                return x.line(below(40), 40 + below(40), below(3) - 1);
            default:
                return x.styles() + x.lines();
        }
    }

    private static long run(int calls) {
        SubtitleStyles x = new SubtitleStyles();
        long answers = 0;
        for (int i = 0; i < calls; i++) {
            answers = 31 * answers + call(x, below(28), any(), any(), any());
        }
        return answers;
    }

    public static void main(String[] args) {
        Due d = new Due();
        for (int i = 0; i < 400; i++) {
            long before = seed;
            long answers = run(i % 20 == 0 ? 5000 : 512);
            seed = before;
            d.due("the same calls again, run " + i, run(i % 20 == 0 ? 5000 : 512), answers);
        }
        d.end();
    }
}
