import com.sun.management.ThreadMXBean;
import java.lang.management.ManagementFactory;

/**
 * All calls of one run live in one room: an object with all that it can hold makes little once, and its
 * dearest calls make nothing.
 */
public final class RoomTest {
    private static final int MOST_BYTES = 200_000;
    private static final int MOST_BYTES_OF_CALLS = 20_000;

    public static void main(String[] args) {
        long before = made();
        HallGlass x = full();
        long whole = made() - before;
        if (whole > MOST_BYTES) {
            System.out.println("a full object made " + whole + " bytes");
            System.exit(1);
        }
        calls(x);
        before = made();
        for (int i = 0; i < 20; i++) {
            calls(x);
        }
        long ofCalls = made() - before;
        System.out.println("a full object: " + whole + " bytes, some 400 dear calls: " + ofCalls);
        if (ofCalls > MOST_BYTES_OF_CALLS) {
            System.exit(1);
        }
    }

    private static long made() {
        return ((ThreadMXBean) ManagementFactory.getThreadMXBean()).getThreadAllocatedBytes(Thread.currentThread().getId());
    }

    private static HallGlass full() {
        HallGlass x = new HallGlass();
        x.run(100);
        x.run(100);
        x.run(40);
        for (int g = 0; g < 4; g++) {
            x.glass(g, g, g);
            for (int m = 0; m < 8; m++) {
                x.mark(g, 440 + m * 10 + g);
            }
        }
        for (int s = 0; s < 10; s++) {
            // 40 signs, each a bracket deep
            for (int i = 0; i < 10; i++) {
                x.sign('(' << 24 | 'f' << 16 | ')' << 8 | (i == 9 ? ')' : '+'));
            }
            x.end(39);
            x.omen(s % 4);
        }
        for (int p = 0; p < 6; p++) {
            x.person(p, 50 - p, p);
        }
        for (int d = 0; d < 240; d++) {
            x.telling(d, d % 101);
            x.valley(d, d % 4);
        }
        return x;
    }

    private static void calls(HallGlass x) {
        x.differ(0, 1);
        x.right(0, 1);
        x.whose(0, 1, 2);
        x.table(0, 1, 1);
        x.says(1, 1, 1);
        x.lot(2, 1, 9);
        x.fails(3, 3, 1);
        x.beast(4, 1, 2);
        x.holds(5, 2, 1);
        x.saved(0, 1023, 2, 1);
        x.few(0, 3, 0, 2, 1);
        x.truly(0, 1023, 2, 1);
        x.level(0, 0, 1, 2, 1);
        x.remember(0, 1, 20, 1);
        x.drum(0, 1, 20, 10);
        x.cry(0, 1, 20);
        x.mow(0, 1);
        x.fields(1);
        x.listen(0, 62);
        x.village(0, 1, 20, 1);
        x.first(0, 1, 20, 1);
        x.elsewhere(0, 1, 1);
        x.worlds(0, 1023, 60, 12, 1, 1);
        x.judge(1, 0);
        x.hedge(50, 0);
        x.sticks();
    }
}
