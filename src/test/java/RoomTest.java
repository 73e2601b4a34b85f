import com.sun.management.ThreadMXBean;
import java.lang.management.ManagementFactory;

/** All calls of a run live in one room: an object is small, and its calls make next to nothing. */
public final class RoomTest {
    private static final ThreadMXBean ROOM = (ThreadMXBean) ManagementFactory.getThreadMXBean();
    private static final int CALLS = 512;

    // The machine's own loading of classes must not count.
    private static boolean warm = false;
    private static int wrong = 0;

    private static long bytes() {
        return ROOM.getThreadAllocatedBytes(Thread.currentThread().getId());
    }

    private static void atMost(String what, long got, long most) {
        if (warm && got > most) {
            wrong++;
            System.out.println(what + " took " + got + " bytes, at most " + most + " are due");
        }
    }

    public static void main(String[] args) {
        measure();
        warm = true;
        measure();
        System.out.println(wrong == 0 ? "the room suffices" : wrong + " things take too much room");
        if (wrong != 0) {
            System.exit(1);
        }
    }

    private static void measure() {
        long start = bytes();
        FineSlot x = new FineSlot();
        atMost("an object", bytes() - start, 20000);
        x.deal(6);
        for (int i = 0; i < 8; i++) {
            x.rule(i % 6, 5 * i, 40, 7);
        }
        x.force(1);
        for (int i = 0; i < 4; i++) {
            x.sheet(i, 0, 24);
        }
        start = bytes();
        for (int i = 0; i < CALLS; i++) {
            ask(x, i);
        }
        atMost("512 calls", bytes() - start, 20000);
        start = bytes();
        for (int i = 0; i < CALLS / 2; i++) {
            x.feed(0x6f776520, 0x61202b20, 0x64202020);
            x.text();
            x.back();
        }
        atMost("256 texts", bytes() - start, 256 * 100);
    }

    private static void ask(FineSlot x, int i) {
        switch (i % 16) {
            case 0: x.find(); break;
            case 1: x.edge(i % 6); break;
            case 2: x.write(); break;
            case 3: x.least(); break;
            case 4: x.year(); break;
            case 5: x.library(i % 4); break;
            case 6: x.keep(); break;
            case 7: x.back(); break;
            case 8: x.check(30); break;
            case 9: x.learn(i % 4); break;
            case 10: x.lay(i % 5, 1, 0); break;
            case 11: x.lay(i % 5, 2, 0); break;
            case 12: x.copy(0, 0, 1, 2, 20); break;
            case 13: x.sheet(2, 1, 24); break;
            case 14: x.reader(0, 0, 3); break;
            default: x.run(0); break;
        }
    }
}
