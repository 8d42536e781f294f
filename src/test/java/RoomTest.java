import com.sun.management.ThreadMXBean;
import java.lang.management.ManagementFactory;

/** All calls of a run live in one room: what 512 of the dearest calls make stays far below it. */
public final class RoomTest {
    // The room has 7.3 million fields and elements; at 4 bytes each a twentieth of it.
    private static final long MOST_BYTES = 1_460_000;
    private static FlapBoard x;
    private static int calls = 0;

    private static void tape(String s) {
        x.end(0);
        calls++;
        for (int i = 0; i < s.length(); i += 20) {
            int[] v = Bench.packed(s, i);
            x.feed(v[0], v[1], v[2], v[3], v[4]);
            calls++;
        }
        x.end(s.length());
        calls++;
    }

    private static void dearest() {
        x = new FlapBoard();
        String forty = " abcdefghijklmnopqrstuvwxyz0123456789-.!";
        tape("board 4 10 limit 9;drum 9 '" + forty + "';drum 8 '" + forty + "';drum 9 '" + forty + "';drum 7 '" + forty
            + "';cells 10 19 1;cells 20 29 2;cells 30 39 3;lose 3 9");
        if (x.tell() != 4) throw new IllegalStateException("the dearest board is none");
        for (int k = 0; k < 14; k++) {
            tape("times 20 (scroll '!a.b-c9d8e';settle;times 2 (scroll 'zyxwvutsrq';settle;scroll '0987654321';settle))");
            if (x.run() != 200) throw new IllegalStateException("the dearest program is none");
            x.keep(k & 1);
            x.better(0, 0);
            x.when(0);
            x.rests(39);
            calls += 5;
        }
        while (calls < 512) {
            x.undo();
            x.tick(99);
            x.better(3, 1);
            calls += 3;
        }
    }

    public static void main(String[] args) {
        ThreadMXBean threads = (ThreadMXBean) ManagementFactory.getThreadMXBean();
        long id = Thread.currentThread().getId();
        long began = System.nanoTime();
        long before = threads.getThreadAllocatedBytes(id);
        dearest();
        long made = threads.getThreadAllocatedBytes(id) - before;
        System.out.println(calls + " calls made " + made + " bytes in " + (System.nanoTime() - began) / 1_000_000 + " ms");
        if (made > MOST_BYTES) {
            System.out.println("that is too much");
            System.exit(1);
        }
    }
}
