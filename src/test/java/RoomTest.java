import com.sun.management.ThreadMXBean;
import java.lang.management.ManagementFactory;

/** A run of 512 calls makes few objects: its room is some 7.3 million fields and elements. */
public final class RoomTest {
    /** At four bytes a field the room is seven times as large. */
    private static final long MOST_BYTES = 4_000_000;
    private static final ThreadMXBean THREADS = (ThreadMXBean) ManagementFactory.getThreadMXBean();

    private static long made() {
        return THREADS.getThreadAllocatedBytes(Thread.currentThread().getId());
    }

    private static SubtitleStyles full() {
        SubtitleStyles x = new SubtitleStyles();
        for (int i = 0; i < 10; i++) {
            x.style(i - 1);
        }
        for (int i = 0; i < 80; i++) {
            x.type("{k1}".charAt(i % 4));
        }
        x.line(0, 100, 9);
        for (int i = 0; i < 300; i++) {
            x.type('a');
            if (i % 20 == 19) {
                x.line(0, 100, 9);
            }
        }
        return x;
    }

    private static void run(int which) {
        SubtitleStyles x = full();
        for (int i = 0; i < 512; i++) {
            switch (which) {
                case 0:
                    x.fingerprint();
                    break;
                case 1:
                    x.fit(0);
                    break;
                case 2:
                    x.setStyle(9, 0, 1 + i % 99);
                    break;
                case 3:
                    x.change(0, 1, i % 200);
                    break;
                case 4:
                    x.unlike();
                    break;
                default:
                    x.shown(50, i % 16);
                    x.sung(50);
                    x.crowd();
                    break;
            }
        }
    }

    public static void main(String[] args) {
        Due d = new Due();
        for (int which = 0; which < 6; which++) {
            long before = made();
            run(which);
            long bytes = made() - before;
            d.due("the run " + which + " made " + bytes + " bytes, few enough", bytes <= MOST_BYTES ? 1 : 0, 1);
        }
        d.end();
    }
}
