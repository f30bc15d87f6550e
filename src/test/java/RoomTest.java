import com.sun.management.ThreadMXBean;
import java.lang.management.ManagementFactory;

/** A run of 512 calls that are as dear as can be lives in a room of some 7.3 million elements. */
public final class RoomTest {
    private static final long ROOM = 7_300_000L * 4;

    public static void main(String[] args) {
        ThreadMXBean bean = (ThreadMXBean) ManagementFactory.getThreadMXBean();
        int wrong = 0;
        for (int seed = 1; seed <= 12; seed++) {
            run(seed);
            long before = bean.getThreadAllocatedBytes(Thread.currentThread().getId());
            run(seed);
            long taken = bean.getThreadAllocatedBytes(Thread.currentThread().getId()) - before;
            if (taken > ROOM / 8) {
                wrong++;
                System.out.println("run " + seed + " takes " + taken + " bytes");
            }
        }
        System.out.println("RoomTest: " + wrong + " wrong");
        if (wrong != 0) {
            System.exit(1);
        }
    }

    private static void run(int seed) {
        Rangehold x = new Rangehold();
        for (int i = 0; i < 5; i++) {
            x.addNode(0);
        }
        x.found(31);
        x.settle(40);
        for (int i = 0; i < 6; i++) {
            x.piece(i);
        }
        x.load();
        for (int i = 1; i < 8; i++) {
            x.split(0, 4 * i, i - 1, 0);
            x.settle(20);
        }
        for (int i = 0; i < 24; i++) {
            x.run(i % 5, i % 6, i % 32, 32 - i % 7);
            x.setKeeper(i % 5, true);
        }
        int drawn = seed;
        for (int i = 0; i < 400; i++) {
            drawn = drawn * 1103515245 + 12345;
            int act = (drawn >>> 16) % 10;
            if (act < 5) {
                if (x.count(0) < 4800) {
                    x.play(drawn, 150);
                }
            } else if (act < 7) {
                if (x.count(0) < 4800) {
                    x.settle(40);
                }
            } else if (act == 7) {
                x.agrees();
            } else if (act == 8) {
                x.errors();
            } else {
                int node = (drawn >>> 20) % 5;
                if (x.nodeAt(node, 0) == 1) {
                    x.stop(node, true);
                } else {
                    x.start(node);
                }
            }
        }
    }
}
