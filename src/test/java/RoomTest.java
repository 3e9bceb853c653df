import java.lang.management.ManagementFactory;

/**
 * All that an object needs is made with it; no call makes anything. Measured in bytes, for all calls of a
 * run share one room: a single small array in each call would show.
 */
public final class RoomTest {
    private static final int ROUNDS = 500;
    /** An object takes 16 bytes at least: one that is made once in each round would take 8000. */
    private static final long MOST_BYTES = 4000L;
    private static final String TEXT = "0or1;1be0;2box-3-2 5 3;2grow1;3xor2;3flip;3turn;4move1 1;";

    public static void main(String[] args) {
        var threads = (com.sun.management.ThreadMXBean) ManagementFactory.getThreadMXBean();
        BandAreas[] x = new BandAreas[ROUNDS + 1];
        for (int k = 0; k < x.length; k++) {
            x[k] = new BandAreas();
        }
        // the first round loads what the machine itself loads late
        long sum = everyCall(x[ROUNDS]);
        threads.getCurrentThreadAllocatedBytes();
        long before = threads.getCurrentThreadAllocatedBytes();
        for (int k = 0; k < ROUNDS; k++) {
            sum += everyCall(x[k]);
        }
        long made = threads.getCurrentThreadAllocatedBytes() - before;
        System.out.println(ROUNDS + " rounds of every call made " + made + " bytes (the answers' sum is " + sum + ")");
        if (made > MOST_BYTES) {
            System.out.println("more than " + MOST_BYTES + ": some call makes objects");
            System.exit(1);
        }
    }

    /** Each call as it is answered and as it is refused: fewer than 512 on one object. */
    private static long everyCall(BandAreas x) {
        long sum = areas(x) + asking(x);
        for (int k = 0; k < TEXT.length(); k++) {
            sum += x.type(TEXT.charAt(k));
        }
        sum += x.does() + x.type(33) + x.does() + x.clear() + x.type(128) + x.does();
        for (int a = -1; a <= 5; a++) {
            sum += x.writing(a, -1) + x.writing(a, 3) + x.mark(a);
        }
        for (int what = -1; what <= 6; what++) {
            sum += x.told(what);
        }
        return sum + x.digest();
    }

    private static long areas(BandAreas x) {
        long sum = x.box(-5, -5, 9, 9, 0) + x.box(50, 0, 20, 1, 0) + x.box(60, 0, 1, 1, 0);
        for (int sort = 0; sort <= 4; sort++) {
            sum += x.draw(sort + 7, 9, 1) + x.mix(sort, 0, 1, 2);
        }
        for (int n = -10; n <= 10; n++) {
            sum += x.grow(1, n, 3);
        }
        for (int way = 0; way <= 3; way++) {
            sum += x.flip(1, way, 3);
        }
        sum += x.move(0, 3, 3, 4) + x.move(0, 100, 0, 4) + x.rest(1, 3) + x.rest(5, 3) + x.part(0, 0, 0, 2) + x.part(0, 40, 0, 2);
        for (int k = 0; k <= 10; k++) {
            sum += x.corner(7 * k - 30, k % 2 * 70 - 30);
        }
        sum += x.round(2);
        return sum + x.round(5);
    }

    private static long asking(BandAreas x) {
        long sum = 0;
        for (int what = -1; what <= 9; what++) {
            sum += x.of(1, what) + x.span(1, what, what % 4) + x.two(0, 1, what) + x.hit(1, what, what);
            sum += x.across(1, what % 2, what) + x.common(0, what) + x.apart(0, what);
        }
        return sum;
    }
}
