import java.lang.reflect.Constructor;
import java.lang.reflect.InvocationTargetException;
import java.lang.reflect.Method;
import java.util.Arrays;
import java.util.Map;
import java.util.Set;
import java.util.TreeMap;
import java.util.TreeSet;
import java.util.function.IntSupplier;
import java.util.function.IntUnaryOperator;

/**
 * What the tests by promise share. A case is a method of its own, named by the number of its promise
 * and by what it is about, as in p02_xFromMinus60To59; each is run on a new object.
 */
abstract class Cases {
    static final int NONE = -201, BAD = -202, NO = -203, FULL = -204;
    static final int LOW = Integer.MIN_VALUE, HIGH = Integer.MAX_VALUE;
    /** A writing up to this length is read sign by sign; a longer one goes by its mark. */
    private static final int SHORT = 60;
    private static final int MOST_SECONDS = 300;
    private static volatile String running = "";

    Plane x = new Plane();
    private String name = "";
    private int wrong = 0;

    /** Runs every case of a class; each promise from the first to the last must have one. */
    static void run(Class<? extends Cases> tests, int firstPromise, int lastPromise) throws Exception {
        Map<String, Method> cases = new TreeMap<>();
        Set<Integer> promises = new TreeSet<>();
        for (Method m : tests.getDeclaredMethods()) {
            if (m.getName().matches("p\\d\\d_\\w+")) {
                cases.put(m.getName(), m);
                promises.add(Integer.parseInt(m.getName().substring(1, 3)));
            }
        }
        Set<Integer> due = new TreeSet<>();
        for (int promise = firstPromise; promise <= lastPromise; promise++) {
            due.add(promise);
        }
        stopIfItNeverEnds();
        int failed = 0;
        if (!promises.equals(due)) {
            failed++;
            System.out.println("cases are of the promises " + promises + ", due are " + due);
        }
        Constructor<? extends Cases> made = tests.getDeclaredConstructor();
        made.setAccessible(true);
        for (Method m : cases.values()) {
            m.setAccessible(true);
            Cases one = made.newInstance();
            failed += one.passes(m) ? 0 : 1;
        }
        System.out.println(cases.size() + " cases, " + (failed == 0 ? "all as due" : failed + " not as due"));
        if (failed != 0) {
            System.exit(1);
        }
    }

    /** A call that does not end is a fault as any other; without this the tests would not end either. */
    private static void stopIfItNeverEnds() {
        Thread watch = new Thread(() -> {
            try {
                Thread.sleep(MOST_SECONDS * 1000L);
            } catch (InterruptedException e) {
                return;
            }
            System.out.println(running + ": has not ended after " + MOST_SECONDS + " seconds");
            Runtime.getRuntime().halt(1);
        });
        watch.setDaemon(true);
        watch.start();
    }

    private boolean passes(Method m) throws IllegalAccessException {
        name = m.getName();
        running = name;
        try {
            m.invoke(this);
        } catch (InvocationTargetException e) {
            wrong++;
            System.out.println(name + ": threw " + e.getCause());
        }
        return wrong == 0;
    }

    // ---- what is due

    void due(String what, long got, long want) {
        if (got != want) {
            wrong++;
            System.out.println(name + ": " + what + " is " + got + ", due is " + want);
        }
    }

    void due(long got, long want) {
        due("the answer", got, want);
    }

    /** THE WRITING of an area, by its length, its mark, and its signs if they are few. */
    void dueWriting(int a, String want) {
        due("the length of area " + a, x.writing(a, -1), want.length());
        due("the mark of area " + a, x.mark(a), want.hashCode());
        for (int k = 0; k < want.length() && want.length() <= SHORT; k++) {
            due("sign " + k + " of area " + a + " with " + want, x.writing(a, k), want.charAt(k));
        }
    }

    /** A call that is refused: all stays as it was, and how often so was refused is one more. */
    void refused(int code, IntSupplier call) {
        int[] want = state();
        want[BAD - code]++;
        due(call.getAsInt(), code);
        dueState(want);
    }

    /** A call that answers, and changes nothing at all. */
    void keeps(int answer, IntSupplier call) {
        int[] want = state();
        due(call.getAsInt(), answer);
        dueState(want);
    }

    /** A number is BAD just below the least, just above the greatest, and far beyond both. */
    void badBeyond(int least, int greatest, IntUnaryOperator call) {
        for (int v : new int[] {least - 1, greatest + 1, LOW, HIGH}) {
            refused(BAD, () -> call.applyAsInt(v));
        }
    }

    /** All that a call may change: told(0) to told(5), and of each area CELLS, BANDS, SPANS, mark. */
    int[] state() {
        int[] s = new int[26];
        int at = 0;
        for (int what = 0; what <= 5; what++) {
            s[at++] = x.told(what);
        }
        for (int a = 0; a < 5; a++) {
            for (int what = 0; what <= 2; what++) {
                s[at++] = x.of(a, what);
            }
            s[at++] = x.mark(a);
        }
        return s;
    }

    void dueState(int[] want) {
        int[] got = state();
        if (!Arrays.equals(got, want)) {
            wrong++;
            System.out.println(name + ": the state is " + Arrays.toString(got) + ", due is " + Arrays.toString(want));
        }
    }

    // ---- what the cases begin with

    /** Something in every area, three corners and a text, so that a refused call could spoil it. */
    void stock() {
        x.box(-60, -60, 3, 2, 0);
        x.box(-1, -1, 2, 2, 1);
        x.box(57, 0, 3, 1, 2);
        x.box(0, 58, 1, 2, 3);
        x.box(59, 59, 1, 1, 4);
        corners(0, 0, 4, 0, 4, 4);
        type("0 flip;");
    }

    void corners(int... c) {
        for (int k = 0; k + 1 < c.length; k += 2) {
            x.corner(c[k], c[k + 1]);
        }
    }

    void type(String text) {
        for (int k = 0; k < text.length(); k++) {
            x.type(text.charAt(k));
        }
    }

    int tell(String text) {
        x.clear();
        type(text);
        return x.does();
    }

    /** Puts boxes x, y, w, h to an area; area 4 is empty then. */
    void put(int a, int... boxes) {
        for (int k = 0; k + 3 < boxes.length; k += 4) {
            x.box(boxes[k], boxes[k + 1], boxes[k + 2], boxes[k + 3], 4);
            x.mix(0, a, 4, a);
        }
        x.mix(3, 4, 4, 4);
    }

    /** An area becomes itself many times over, each dx, dy from the one before; area 4 is empty then. */
    void repeat(int a, int many, int dx, int dy) {
        int have = 1;
        while (have < many) {
            int more = Math.min(have, many - have);
            x.move(a, more * dx, more * dy, 4);
            x.mix(0, a, 4, a);
            have += more;
        }
        x.mix(3, 4, 4, 4);
    }

    /** All cells of some columns. */
    void columns(int a, int left, int w) {
        put(a, left, -60, w, 60, left, 0, w, 60);
    }

    /** 60 bands of one cell: x 0, every other row from -60 on. */
    void sixtyBands(int a) {
        x.box(0, -60, 1, 1, a);
        repeat(a, 60, 0, 2);
    }

    /** 300 spans of one cell in 5 bands: every other column from -60 on, every other row from -60 to -52. */
    void threeHundredSpans(int a) {
        x.box(-60, -60, 1, 1, a);
        repeat(a, 60, 2, 0);
        repeat(a, 5, 0, 2);
    }

    /** 60 bands of 5 spans of one cell: x 0, 2, 4, 6, 8, every other row from -60 on. */
    void brimful(int a) {
        x.box(0, -60, 1, 1, a);
        repeat(a, 5, 2, 0);
        repeat(a, 60, 0, 2);
    }

    /** Areas 0 and 1, whose AND has four bands in four rows, so many times over; each alone has half of them. */
    void toBeCut(int fours) {
        cutColumn(0, 2, -58, fours);
        cutColumn(1, 1, -59, fours);
    }

    private void cutColumn(int a, int left, int top, int fours) {
        x.box(left, top, 1, 2, 3);
        repeat(3, fours, 0, 4);
        x.box(0, -60, 3, 4 * fours, a);
        x.mix(2, a, 3, a);
        x.mix(3, 3, 3, 3);
    }

    /** Area 0: two columns; area 1: 30 holes for them, from row top on, each in its own row. */
    void toBeHoled(int top) {
        columns(0, 0, 2);
        x.box(0, top, 1, 1, 1);
        repeat(1, 30, 0, 2);
    }

    /** Cells that go down in steps of 3, 3: GROWN by 2 they have a band less than twice their number. */
    void stairs(int a, int many) {
        x.box(-57, -57, 1, 1, a);
        repeat(a, many, 3, 3);
    }

    /** All but holes 3 high that go down in steps from row top: SHRUNK by 1 each but one makes two bands. */
    void holedStairs(int a, int many, int top) {
        x.box(-58, top, 1, 3, a);
        repeat(a, many, 3, 3);
        x.rest(a, a);
    }

    /** Bars of 1, 2, 3 .. cells in every other row: TURNED they have many (many + 1) / 2 spans. */
    void bars(int a, int many) {
        for (int k = 0; k < many; k++) {
            put(a, -60, -60 + 2 * k, k + 1, 1);
        }
    }
}
