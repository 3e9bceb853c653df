/** Each promise of the document by itself: ordinary calls, the edges it names, and what it refuses. */
public final class PromiseTest {
    private static final int NONE = -201, BAD = -202, NO = -203, FULL = -204;
    private static final int LOW = Integer.MIN_VALUE, HIGH = Integer.MAX_VALUE;
    private static int wrong = 0;
    private static int checks = 0;

    private static void due(int promise, String what, long got, long want) {
        checks++;
        if (got != want) {
            wrong++;
            System.out.println("promise " + promise + ": " + what + " answered " + got + ", due is " + want);
        }
    }

    private static void due(int promise, String what, String got, String want) {
        checks++;
        if (!got.equals(want)) {
            wrong++;
            System.out.println("promise " + promise + ": " + what + " is " + got + ", due is " + want);
        }
    }

    /** THE WRITING as a text, by its length and its signs. */
    private static String written(BandAreas x, int a) {
        StringBuilder s = new StringBuilder();
        int length = x.writing(a, -1);
        for (int k = 0; k < length; k++) {
            s.append((char) x.writing(a, k));
        }
        return s.toString();
    }

    private static int tell(BandAreas x, String text) {
        x.clear();
        for (int k = 0; k < text.length(); k++) {
            x.type(text.charAt(k));
        }
        return x.does();
    }

    /** Puts a box to an area, by way of area 4. */
    private static void put(BandAreas x, int a, int left, int top, int w, int h) {
        x.box(left, top, w, h, 4);
        x.mix(0, a, 4, a);
    }

    /** Columns of 1 by h with gaps of 1 between: many spans in one band. */
    private static void columns(BandAreas x, int a, int many, int top, int h) {
        for (int k = 0; k < many; k++) {
            put(x, a, -60 + 2 * k, top, 1, h);
        }
    }

    /** Area 0: 60 bands of 5 spans; row y begins with x -60 or -59. */
    private static BandAreas brimful() {
        BandAreas x = new BandAreas();
        x.box(-60, -60, 1, 60, 1);
        for (int k = 1; k < 5; k++) {
            put(x, 1, -60 + 3 * k, -60, 1, 60);
        }
        for (int k = 0; k < 30; k++) {
            put(x, 2, -60, -60 + 2 * k, 99, 1);
        }
        // every other row is moved by one
        x.mix(1, 1, 2, 0);
        x.mix(2, 1, 2, 3);
        x.move(3, 1, 0, 3);
        x.mix(0, 0, 3, 0);
        x.grow(4, -9, 4);
        return x;
    }

    private static void fresh() {
        BandAreas x = new BandAreas();
        for (int a = 0; a < 5; a++) {
            due(1, "of(" + a + ", 0)", x.of(a, 0), 0);
            due(1, "writing(" + a + ", -1)", x.writing(a, -1), 0);
        }
        for (int what = 0; what <= 5; what++) {
            due(1, "told(" + what + ")", x.told(what), 0);
        }
        due(1, "NONE", BandAreas.NONE, NONE);
        due(1, "BAD", BandAreas.BAD, BAD);
        due(1, "NO", BandAreas.NO, NO);
        due(1, "FULL", BandAreas.FULL, FULL);
        BandAreas y = new BandAreas();
        x.box(0, 0, 1, 1, 0);
        due(1, "another object", y.of(0, 0), 0);
    }

    private static void box() {
        BandAreas x = new BandAreas();
        due(2, "box(-2, 3, 4, 5, 0)", x.box(-2, 3, 4, 5, 0), 20);
        due(2, "its writing", written(x, 0), "3.8:-2.2;");
        due(2, "box(-60, -60, 99, 99, 1)", x.box(-60, -60, 99, 99, 1), 9801);
        due(2, "its writing", written(x, 1), "-60.39:-60.39;");
        due(2, "box(-39, -39, 99, 99, 4)", x.box(-39, -39, 99, 99, 4), 9801);
        due(2, "its writing", written(x, 4), "-39.60:-39.60;");
        due(2, "box(59, 59, 1, 1, 0)", x.box(59, 59, 1, 1, 0), 1);
        due(2, "its writing", written(x, 0), "59.60:59.60;");
        due(2, "x beyond", x.box(59, 59, 2, 1, 0), NO);
        due(2, "y beyond", x.box(59, 59, 1, 2, 0), NO);
        due(2, "box(-38, -60, 99, 1, 0)", x.box(-38, -60, 99, 1, 0), NO);
        int[][] bad = {{-61, 0, 1, 1, 0}, {60, 0, 1, 1, 0}, {0, -61, 1, 1, 0}, {0, 60, 1, 1, 0}, {0, 0, 0, 1, 0},
            {0, 0, 100, 1, 0}, {0, 0, 1, 0, 0}, {0, 0, 1, 100, 0}, {0, 0, 1, 1, -1}, {0, 0, 1, 1, 5},
            {0, 0, 61, 1, 5}, {LOW, 0, 1, 1, 0}, {0, 0, HIGH, 1, 0}, {0, 0, 1, HIGH, 0}};
        for (int[] b : bad) {
            due(2, "a bad box", x.box(b[0], b[1], b[2], b[3], b[4]), BAD);
        }
        due(2, "what stays", written(x, 0), "59.60:59.60;");
        due(2, "BAD", x.told(0), bad.length);
        due(2, "NO", x.told(1), 3);
    }

    private static void mix() {
        BandAreas x = new BandAreas();
        x.box(-3, 0, 5, 3, 0);
        x.box(0, 1, 4, 4, 1);
        String[] want = {"0.1:-3.2;1.3:-3.4;3.5:0.4;", "1.3:0.2;", "0.1:-3.2;1.3:-3.0;", "0.1:-3.2;1.3:-3.0,2.4;3.5:0.4;"};
        int[] cells = {27, 4, 11, 23};
        for (int sort = 0; sort < 4; sort++) {
            due(3, "mix(" + sort + ", 0, 1, 2)", x.mix(sort, 0, 1, 2), cells[sort]);
            due(3, "its writing", written(x, 2), want[sort]);
        }
        due(3, "BUT the other way", x.mix(2, 1, 0, 2), 12);
        due(3, "into itself", x.mix(3, 2, 2, 2), 0);
        due(3, "into a", x.mix(1, 0, 1, 0), 4);
        due(3, "into b", x.mix(2, 0, 1, 1), 0);
        int[][] bad = {{-1, 0, 0, 0}, {4, 0, 0, 0}, {0, -1, 0, 0}, {0, 5, 0, 0}, {0, 0, -1, 0}, {0, 0, 5, 0}, {0, 0, 0, -1}, {0, 0, 0, 5}};
        for (int[] b : bad) {
            due(3, "a bad mix", x.mix(b[0], b[1], b[2], b[3]), BAD);
        }
        due(3, "BAD", x.told(0), bad.length);
        due(3, "FULL", x.told(2), 0);
    }

    private static void mixFull() {
        BandAreas x = brimful();
        due(3, "bands", x.of(0, 1), 60);
        due(3, "spans", x.of(0, 2), 300);
        x.box(0, -60, 1, 1, 1);
        due(3, "a span more than 300", x.mix(0, 0, 1, 0), FULL);
        x.box(-60, 10, 1, 1, 1);
        due(3, "a band and a span more", x.mix(0, 0, 1, 0), FULL);
        due(3, "what stays", x.of(0, 2), 300);
        due(3, "FULL", x.told(2), 2);
        // fewer spans, still 60 bands
        x.box(-48, -60, 2, 60, 1);
        due(3, "a column less", x.mix(2, 0, 1, 0), 240);
        due(3, "bands", x.of(0, 1), 60);
        due(3, "spans", x.of(0, 2), 240);
        x.box(0, 0, 1, 1, 1);
        due(3, "band 61", x.mix(0, 0, 1, 0), FULL);
        x.box(20, -60, 1, 1, 1);
        due(3, "span 241", x.mix(0, 0, 1, 0), 241);
        due(3, "FULL", x.told(2), 3);
    }

    private static void move() {
        BandAreas x = new BandAreas();
        x.box(-3, -1, 5, 2, 0);
        put(x, 0, 1, 1, 2, 1);
        due(4, "move(0, 7, -9, 1)", x.move(0, 7, -9, 1), 12);
        due(4, "its writing", written(x, 1), "-10.-8:4.9;-8.-7:8.10;");
        due(4, "to the left edge", x.move(0, -57, 0, 1), 12);
        due(4, "beyond it", x.move(0, -58, 0, 1), NO);
        due(4, "to the right edge", x.move(0, 57, 0, 2), 12);
        due(4, "its writing", written(x, 2), "-1.1:54.59;1.2:58.60;");
        due(4, "beyond it", x.move(0, 58, 0, 1), NO);
        due(4, "to the upper edge", x.move(0, 0, -59, 2), 12);
        due(4, "beyond it", x.move(0, 0, -60, 1), NO);
        due(4, "to the lower edge", x.move(0, 0, 58, 2), 12);
        due(4, "beyond it", x.move(0, 0, 59, 1), NO);
        due(4, "from edge to edge", x.move(1, 114, 0, 1), 12);
        due(4, "empty", x.move(3, 120, -120, 4), 0);
        due(4, "an own place", x.move(0, 1, 1, 0), 12);
        due(4, "its writing", written(x, 0), "0.2:-2.3;2.3:2.4;");
        x.box(-60, -60, 1, 1, 0);
        due(4, "move by 119", x.move(0, 119, 119, 0), 1);
        due(4, "its writing", written(x, 0), "59.60:59.60;");
        due(4, "move by 120", x.move(0, -120, 0, 0), NO);
        int[][] bad = {{-1, 0, 0, 0}, {5, 0, 0, 0}, {0, 121, 0, 0}, {0, -121, 0, 0}, {0, 0, 121, 0}, {0, 0, -121, 0},
            {0, 0, 0, -1}, {0, 0, 0, 5}, {3, LOW, 0, 0}, {3, 0, HIGH, 0}, {0, 100, 0, 5}};
        for (int[] b : bad) {
            due(4, "a bad move", x.move(b[0], b[1], b[2], b[3]), BAD);
        }
        due(4, "BAD", x.told(0), bad.length);
        due(4, "NO", x.told(1), 5);
    }

    private static void grow() {
        BandAreas x = new BandAreas();
        x.box(-1, 0, 1, 1, 0);
        due(5, "grow by 2", x.grow(0, 2, 1), 25);
        due(5, "its writing", written(x, 1), "-2.3:-3.2;");
        due(5, "grow by 9", x.grow(0, 9, 2), 361);
        due(5, "shrink by 9", x.grow(2, -9, 2), 1);
        due(5, "same", x.two(0, 2, 0), 1);
        due(5, "shrink by 1", x.grow(0, -1, 2), 0);
        due(5, "as it is", x.grow(1, 0, 3), 25);
        due(5, "same", x.two(1, 3, 0), 1);
        x.box(57, -60, 3, 3, 0);
        due(5, "at a corner", x.grow(0, 9, 1), 144);
        due(5, "its writing", written(x, 1), "-60.-48:48.60;");
        due(5, "what lies beyond is not of it", x.grow(1, -1, 1), 100);
        due(5, "its writing", written(x, 1), "-59.-49:49.59;");
        x.box(0, 0, 7, 7, 0);
        x.box(3, 3, 1, 1, 1);
        x.mix(2, 0, 1, 0);
        due(5, "round a hole", x.grow(0, -1, 1), 16);
        due(5, "its writing", written(x, 1), "1.2:1.6;2.5:1.2,5.6;5.6:1.6;");
        due(5, "a hole closes", x.grow(0, 1, 0), 81);
        int[][] bad = {{-1, 0, 0}, {5, 0, 0}, {0, -10, 0}, {0, 10, 0}, {0, 0, -1}, {0, 0, 5}, {0, LOW, 0}, {0, HIGH, 0}};
        for (int[] b : bad) {
            due(5, "a bad grow", x.grow(b[0], b[1], b[2]), BAD);
        }
        due(5, "BAD", x.told(0), bad.length);
    }

    /** Steps of two rows, each a band of its own: growing sets them apart by single rows. */
    private static void growFull() {
        BandAreas x = new BandAreas();
        for (int k = 0; k < 31; k++) {
            put(x, 0, -60 + 3 * k, -59 + 3 * k, 1, 1);
        }
        due(5, "bands", x.of(0, 1), 31);
        due(5, "grow by 2", x.grow(0, 2, 1), FULL);
        due(5, "what stays", x.of(1, 0), 0);
        due(5, "grow by 1", x.grow(0, 1, 1), 276);
        due(5, "bands", x.of(1, 1), 31);
        due(5, "shrink what is too much", x.grow(1, -1, 1), 30);
        due(5, "FULL", x.told(2), 1);
    }

    private static void flip() {
        BandAreas x = new BandAreas();
        x.box(-60, 5, 3, 1, 0);
        put(x, 0, 4, 6, 2, 3);
        due(6, "way 0", x.flip(0, 0, 1), 9);
        due(6, "its writing", written(x, 1), "5.6:57.60;6.9:-6.-4;");
        due(6, "way 1", x.flip(0, 1, 1), 9);
        due(6, "its writing", written(x, 1), "-9.-6:4.6;-6.-5:-60.-57;");
        due(6, "way 2", x.flip(0, 2, 1), 9);
        due(6, "its writing", written(x, 1), "-60.-57:5.6;4.6:6.9;");
        due(6, "back", x.flip(1, 2, 1), 9);
        due(6, "same", x.two(0, 1, 0), 1);
        due(6, "into itself", x.flip(0, 1, 0), 9);
        int[][] bad = {{-1, 0, 0}, {5, 0, 0}, {0, -1, 0}, {0, 3, 0}, {0, 0, -1}, {0, 0, 5}};
        for (int[] b : bad) {
            due(6, "a bad flip", x.flip(b[0], b[1], b[2]), BAD);
        }
        x = new BandAreas();
        columns(x, 0, 60, -60, 1);
        due(6, "60 columns", x.of(0, 2), 60);
        due(6, "60 bands", x.flip(0, 2, 1), 60);
        due(6, "bands", x.of(1, 1), 60);
        // a step within the last column, so that the turned one has a band more
        x.box(-60, -59, 2, 1, 2);
        due(6, "OR", x.mix(0, 0, 2, 0), 62);
        due(6, "61 bands", x.flip(0, 2, 1), FULL);
        due(6, "what stays", x.of(1, 1), 60);
        due(6, "way 0 is not too much", x.flip(0, 0, 1), 62);
        due(6, "FULL", x.told(2), 1);
    }

    private static void rest() {
        BandAreas x = new BandAreas();
        due(7, "of nothing", x.rest(0, 1), 14400);
        due(7, "its writing", written(x, 1), "-60.60:-60.60;");
        due(7, "of all", x.rest(1, 1), 0);
        x.box(-60, -60, 30, 1, 0);
        due(7, "rest(0, 0)", x.rest(0, 0), 14370);
        due(7, "its writing", written(x, 0), "-60.-59:-30.60;-59.60:-60.60;");
        for (int bad = -1; bad <= 5; bad += 6) {
            due(7, "a bad area", x.rest(bad, 0), BAD);
            due(7, "a bad one to", x.rest(0, bad), BAD);
        }
        due(7, "BAD", x.told(0), 4);
        x = new BandAreas();
        for (int k = 0; k < 30; k++) {
            put(x, 0, 2 * k - 30, -59 + 2 * k, 1, 1);
        }
        due(7, "bands 61", x.rest(0, 1), FULL);
        x.box(-60, -60, 1, 1, 4);
        due(7, "at the edge", x.mix(0, 0, 4, 2), 31);
        x.move(0, 0, -1, 0);
        due(7, "bands 60", x.rest(0, 1), 14370);
        due(7, "bands", x.of(1, 1), 60);
        due(7, "FULL", x.told(2), 1);
    }

    private static void part() {
        BandAreas x = new BandAreas();
        // a U, a cell that meets it over a corner alone, and a box behind an empty row
        put(x, 0, 0, 0, 1, 5);
        put(x, 0, 4, 0, 1, 5);
        put(x, 0, 0, 5, 5, 1);
        put(x, 0, 5, 6, 1, 1);
        put(x, 0, 0, -4, 2, 3);
        due(8, "PARTS", x.of(0, 3), 3);
        due(8, "the U", x.part(0, 4, 0, 1), 15);
        due(8, "its writing", written(x, 1), "0.5:0.1,4.5;5.6:0.5;");
        due(8, "from its other arm", x.part(0, 0, 0, 2), 15);
        due(8, "the corner's", x.part(0, 5, 6, 1), 1);
        due(8, "the box", x.part(0, 1, -2, 1), 6);
        due(8, "its writing", written(x, 1), "-4.-1:0.2;");
        due(8, "not of it", x.part(0, 1, -1, 1), NO);
        due(8, "beside it", x.part(0, 5, 5, 1), NO);
        due(8, "what stays", x.of(1, 0), 6);
        due(8, "into itself", x.part(0, 2, 5, 0), 15);
        due(8, "of nothing", x.part(3, 0, 0, 0), NO);
        x.rest(3, 3);
        due(8, "at the edge", x.part(3, 59, 59, 3), 14400);
        due(8, "at the edge", x.part(3, -60, -60, 3), 14400);
        int[][] bad = {{-1, 0, 0, 0}, {5, 0, 0, 0}, {3, -61, 0, 0}, {3, 60, 0, 0}, {3, 0, -61, 0}, {3, 0, 60, 0}, {3, 0, 0, -1}, {3, 0, 0, 5},
            {0, LOW, 0, 0}, {0, 0, HIGH, 0}};
        for (int[] b : bad) {
            due(8, "a bad part", x.part(b[0], b[1], b[2], b[3]), BAD);
        }
        due(8, "BAD", x.told(0), bad.length);
        due(8, "NO", x.told(1), 3);
    }

    private static void corner() {
        BandAreas x = new BandAreas();
        int[][] bad = {{-61, 0}, {61, 0}, {0, -61}, {0, 61}, {LOW, 0}, {0, HIGH}};
        for (int[] b : bad) {
            due(9, "a bad corner", x.corner(b[0], b[1]), BAD);
        }
        for (int k = 1; k <= 10; k++) {
            due(9, "corner " + k, x.corner(k % 2 == 0 ? -60 : 60, k % 3 == 0 ? 60 : -60), k);
        }
        due(9, "corner 11", x.corner(0, 0), FULL);
        due(9, "BAD is first", x.corner(61, 0), BAD);
        due(9, "CORNERS", x.told(4), 10);
        due(9, "BAD", x.told(0), bad.length + 1);
        due(9, "FULL", x.told(2), 1);
    }

    private static int around(BandAreas x, int to, int... c) {
        for (int k = 0; k < c.length; k += 2) {
            x.corner(c[k], c[k + 1]);
        }
        return x.round(to);
    }

    private static void round() {
        BandAreas x = new BandAreas();
        due(10, "no corners", x.round(0), NO);
        due(10, "BAD is first", x.round(5), BAD);
        due(10, "two", around(x, 0, -2, -2, 3, -2), NO);
        due(10, "they stay", x.told(4), 2);
        due(10, "four", around(x, 0, 3, 3, -2, 3), 25);
        due(10, "its writing", written(x, 0), "-2.3:-2.3;");
        due(10, "there are none then", x.told(4), 0);
        due(10, "none", x.round(0), NO);
        due(10, "the other way round", around(x, 1, -2, 3, 3, 3, 3, -2, -2, -2), 25);
        due(10, "same", x.two(0, 1, 0), 1);
        // crossings at middles: what is not above does not count
        due(10, "a triangle", around(x, 0, 0, 0, 4, 0, 4, 4), 10);
        due(10, "its writing", written(x, 0), "0.1:0.4;1.2:1.4;2.3:2.4;3.4:3.4;");
        due(10, "its other half", around(x, 1, 0, 0, 0, 4, 4, 4), 6);
        due(10, "its writing", written(x, 1), "1.2:0.1;2.3:0.2;3.4:0.3;");
        due(10, "flat", around(x, 1, -60, 7, 60, 7, 0, 7), 0);
        due(10, "upright", around(x, 1, 7, -60, 7, 60, 7, 0), 0);
        due(10, "all", around(x, 1, -60, -60, -60, 60, 60, 60, 60, -60), 14400);
        due(10, "twice round is even", around(x, 1, 0, 0, 5, 0, 5, 5, 0, 5, 0, 0, 5, 0, 5, 5, 0, 5), 0);
        due(10, "a hole within", around(x, 1, 0, 0, 9, 0, 9, 9, 0, 9, 0, 0, 3, 3, 6, 3, 6, 6, 3, 6, 3, 3), 72);
        due(10, "below 0", around(x, 1, -10, -10, -1, -10, -10, -4), 27);
        due(10, "BAD", around(x, -1, 0, 0, 5, 0, 0, 5), BAD);
        due(10, "they stay", x.told(4), 3);
        due(10, "then", x.round(4), 10);
    }

    private static void roundFull() {
        BandAreas x = new BandAreas();
        x.box(0, 0, 2, 2, 0);
        due(10, "61 rows, each other", around(x, 0, -60, -60, 60, -60, -60, 1), FULL);
        due(10, "they stay", x.told(4), 3);
        due(10, "what stays", written(x, 0), "0.2:0.2;");
        due(10, "once more", x.round(0), FULL);
        due(10, "FULL", x.told(2), 2);
        x = new BandAreas();
        due(10, "60 rows", around(x, 0, -60, -60, 60, -60, -60, 0), 3600);
        due(10, "bands", x.of(0, 1), 60);
    }

    private static void draw() {
        BandAreas x = new BandAreas();
        due(11, "draw(0, 1, 0)", x.draw(0, 1, 0), 2);
        due(11, "its writing", written(x, 0), "-22.-20:-25.-24;");
        // X: 1103527590, then 377401575, then 662824084
        due(11, "draw(1, 1, 1)", x.draw(1, 1, 1), (1103527590 / 1024 % 12 + 1) * (1103527590 / 32 % 12 + 1));
        due(11, "x", x.of(1, 5), 1103527590 / 65536 % 40 - 25);
        due(11, "y", x.of(1, 7), 1103527590 / 4096 % 40 - 25);
        x.box(377401575 / 65536 % 40 - 25, 377401575 / 4096 % 40 - 25, 377401575 / 1024 % 12 + 1, 377401575 / 32 % 12 + 1, 2);
        x.mix(0, 1, 2, 2);
        due(11, "draw(1, 2, 3)", x.draw(1, 2, 3), x.of(2, 0));
        due(11, "same", x.two(2, 3, 0), 1);
        x.box(662824084 / 65536 % 40 - 25, 662824084 / 4096 % 40 - 25, 662824084 / 1024 % 12 + 1, 662824084 / 32 % 12 + 1, 4);
        x.mix(0, 2, 4, 2);
        x.draw(1, 3, 3);
        due(11, "three", x.two(2, 3, 0), 1);
        due(11, "what was there goes", x.draw(0, 1, 3), 2);
        due(11, "the greatest", x.draw(999999, 9, 0) > 0 ? 1 : 0, 1);
        int[][] bad = {{-1, 1, 0}, {1000000, 1, 0}, {0, 0, 0}, {0, 10, 0}, {0, 1, -1}, {0, 1, 5}, {LOW, 1, 0}, {HIGH, 1, 0}};
        for (int[] b : bad) {
            due(11, "a bad draw", x.draw(b[0], b[1], b[2]), BAD);
        }
        due(11, "BAD", x.told(0), bad.length);
    }

    private static void hit() {
        BandAreas x = new BandAreas();
        x.box(-1, -1, 2, 3, 0);
        x.rest(1, 1);
        int[][] hits = {{-1, -1}, {0, 1}, {-1, 1}, {0, -1}};
        for (int[] c : hits) {
            due(12, "of it", x.hit(0, c[0], c[1]), 1);
        }
        int[][] misses = {{-2, 0}, {1, 0}, {0, -2}, {0, 2}};
        for (int[] c : misses) {
            due(12, "beside it", x.hit(0, c[0], c[1]), 0);
        }
        int[][] edges = {{-60, -60}, {59, 59}, {-60, 59}, {59, -60}};
        for (int[] c : edges) {
            due(12, "an edge", x.hit(1, c[0], c[1]), 1);
        }
        int[][] beyond = {{-61, 0}, {60, 0}, {0, -61}, {0, 60}, {LOW, 0}, {0, HIGH}, {HIGH, LOW}};
        for (int[] c : beyond) {
            due(12, "beyond", x.hit(1, c[0], c[1]), 0);
        }
        due(12, "a bad area", x.hit(-1, 0, 0), BAD);
        due(12, "a bad area", x.hit(5, 99, 0), BAD);
        due(12, "BAD", x.told(0), 2);
    }

    private static void of() {
        BandAreas x = new BandAreas();
        put(x, 0, -5, -3, 4, 2);
        put(x, 0, 0, -3, 2, 2);
        put(x, 0, -5, -1, 7, 1);
        put(x, 0, 2, 0, 1, 1);
        put(x, 0, -5, 4, 1, 1);
        due(13, "its writing", written(x, 0), "-3.-1:-5.-1,0.2;-1.0:-5.2;0.1:2.3;4.5:-5.-4;");
        int[] want = {21, 4, 5, 3, 32, -5, 3, -3, 5};
        for (int what = 0; what <= 8; what++) {
            due(13, "of(0, " + what + ")", x.of(0, what), want[what]);
            due(13, "of(1, " + what + ")", x.of(1, what), what < 5 ? 0 : NONE);
        }
        x.rest(0, 1);
        due(13, "PARTS of the rest", x.of(1, 3), 1);
        due(13, "round the rest", x.of(1, 4), 32 + 480);
        due(13, "bad", x.of(0, -1), BAD);
        due(13, "bad", x.of(0, 9), BAD);
        due(13, "bad", x.of(-1, 0), BAD);
        due(13, "bad", x.of(5, 0), BAD);
        due(13, "BAD", x.told(0), 4);
        // the middle of the plane is no border
        x.box(-1, -1, 2, 2, 2);
        due(13, "round 2 by 2", x.of(2, 4), 8);
        due(13, "SPANS of 2 by 2", x.of(2, 2), 1);
    }

    private static void span() {
        BandAreas x = new BandAreas();
        put(x, 0, -60, -60, 2, 2);
        put(x, 0, 0, -60, 60, 2);
        put(x, 0, -1, 58, 2, 2);
        int[][] want = {{-60, -58, -60, -58}, {0, 60, -60, -58}, {-1, 1, 58, 60}, {NONE, NONE, NONE, NONE}};
        for (int k = 0; k < 4; k++) {
            for (int what = 0; what < 4; what++) {
                due(14, "span(0, " + k + ", " + what + ")", x.span(0, k, what), want[k][what]);
            }
        }
        due(14, "far beyond", x.span(0, HIGH, 0), NONE);
        due(14, "of nothing", x.span(1, 0, 0), NONE);
        int[][] bad = {{-1, 0, 0}, {5, 0, 0}, {0, -1, 0}, {0, LOW, 0}, {0, 0, -1}, {0, 0, 4}, {1, 9, 4}};
        for (int[] b : bad) {
            due(14, "a bad span", x.span(b[0], b[1], b[2]), BAD);
        }
        due(14, "BAD", x.told(0), bad.length);
        x = brimful();
        due(14, "span 299, x", x.span(0, 299, 0), -47);
        due(14, "span 299, y behind", x.span(0, 299, 3), 0);
        due(14, "span 300", x.span(0, 300, 0), NONE);
    }

    private static void two(BandAreas x, String what, int same, int all, int meet, int beside) {
        due(15, what + ": same", x.two(0, 1, 0), same);
        due(15, what + ": all", x.two(0, 1, 1), all);
        due(15, what + ": in common", x.two(0, 1, 2), meet);
        due(15, what + ": beside", x.two(0, 1, 3), beside);
        due(15, what + ": same, about", x.two(1, 0, 0), same);
        due(15, what + ": in common, about", x.two(1, 0, 2), meet);
        due(15, what + ": beside, about", x.two(1, 0, 3), beside);
    }

    private static void two() {
        BandAreas x = new BandAreas();
        two(x, "both empty", 1, 1, 0, 0);
        x.box(-3, -3, 3, 3, 1);
        two(x, "one empty", 0, 1, 0, 0);
        x.box(-3, -3, 3, 3, 0);
        two(x, "same", 1, 1, 1, 1);
        x.box(-2, -2, 1, 1, 0);
        two(x, "within", 0, 1, 1, 1);
        due(15, "not all the other way", x.two(1, 0, 1), 0);
        x.box(-1, -1, 2, 2, 0);
        two(x, "one cell", 0, 0, 1, 1);
        x.box(0, -1, 2, 2, 0);
        two(x, "to the right", 0, 0, 0, 1);
        x.box(-4, -3, 1, 1, 0);
        two(x, "to the left", 0, 0, 0, 1);
        x.box(-1, 0, 9, 2, 0);
        two(x, "below", 0, 0, 0, 1);
        x.box(-9, -4, 7, 1, 0);
        two(x, "above", 0, 0, 0, 1);
        x.box(0, 0, 9, 2, 0);
        two(x, "over a corner", 0, 0, 0, 0);
        x.box(1, -3, 1, 1, 0);
        two(x, "a gap", 0, 0, 0, 0);
        x.box(-60, 0, 1, 1, 0);
        x.box(59, 0, 1, 1, 1);
        two(x, "no way round", 0, 0, 0, 0);
        x.box(0, -60, 1, 1, 0);
        x.box(0, 59, 1, 1, 1);
        two(x, "no way round", 0, 0, 0, 0);
        x.box(59, -60, 1, 1, 0);
        x.box(-60, -59, 1, 1, 1);
        two(x, "rows do not go on", 0, 0, 0, 0);
        due(15, "itself", x.two(0, 0, 3), 1);
        int[][] bad = {{-1, 0, 0}, {5, 0, 0}, {0, -1, 0}, {0, 5, 0}, {0, 0, -1}, {0, 0, 4}};
        for (int[] b : bad) {
            due(15, "a bad two", x.two(b[0], b[1], b[2]), BAD);
        }
        due(15, "BAD", x.told(0), bad.length);
    }

    /** A cell and what lies round it, in the middle and at every edge of the plane. */
    private static void neighbours() {
        int[] at = {-60, -59, -30, -1, 0, 30, 58, 59};
        for (int x0 : at) {
            for (int y0 : at) {
                BandAreas x = new BandAreas();
                x.box(x0, y0, 1, 1, 0);
                for (int k = 0; k < 25; k++) {
                    int dx = k % 5 - 2;
                    int dy = k / 5 - 2;
                    if (x.box(x0 + dx, y0 + dy, 1, 1, 1) < 0) {
                        continue;
                    }
                    String what = "cell " + x0 + ", " + y0 + " and one by " + dx + ", " + dy;
                    int same = k == 12 ? 1 : 0;
                    int far = Math.abs(dx) + Math.abs(dy);
                    two(x, what, same, same, same, far <= 1 ? 1 : 0);
                    due(16, what, x.common(0, 1), same);
                    due(18, what, x.apart(0, 1), Math.max(Math.abs(dx), Math.abs(dy)));
                    due(12, what, x.hit(0, x0 + dx, y0 + dy), same);
                    x.mix(0, 0, 1, 2);
                    due(13, what + ": PARTS", x.of(2, 3), far <= 1 ? 1 : 2);
                    due(13, what + ": round", x.of(2, 4), far == 0 ? 4 : far == 1 ? 6 : 8);
                    due(8, what, x.part(2, x0, y0, 2), far == 1 ? 2 : 1);
                }
            }
        }
    }

    private static void common() {
        BandAreas x = new BandAreas();
        x.box(-5, -5, 10, 10, 0);
        x.box(0, -60, 9, 60, 1);
        due(16, "common(0, 1)", x.common(0, 1), 25);
        due(16, "common(1, 0)", x.common(1, 0), 25);
        due(16, "itself", x.common(1, 1), 540);
        due(16, "nothing", x.common(0, 2), 0);
        due(16, "bad", x.common(-1, 0), BAD);
        due(16, "bad", x.common(0, 5), BAD);
        due(16, "bad", x.common(5, 0), BAD);
        due(16, "bad", x.common(0, -1), BAD);
        due(16, "BAD", x.told(0), 4);
        due(16, "what stays", x.told(5), 640);
    }

    private static void across() {
        BandAreas x = new BandAreas();
        x.box(-60, 59, 30, 1, 0);
        put(x, 0, 58, 10, 2, 50);
        due(17, "row 59", x.across(0, 0, 59), 32);
        due(17, "row 10", x.across(0, 0, 10), 2);
        due(17, "row 9", x.across(0, 0, 9), 0);
        due(17, "column 59", x.across(0, 1, 59), 50);
        due(17, "column -60", x.across(0, 1, -60), 1);
        due(17, "column 0", x.across(0, 1, 0), 0);
        due(17, "row -60", x.across(0, 0, -60), 0);
        int[][] bad = {{-1, 0, 0}, {5, 0, 0}, {0, -1, 0}, {0, 2, 0}, {0, 0, -61}, {0, 0, 60}, {0, 1, 60}, {0, 1, LOW}};
        for (int[] b : bad) {
            due(17, "a bad across", x.across(b[0], b[1], b[2]), BAD);
        }
        due(17, "BAD", x.told(0), bad.length);
    }

    private static void apart() {
        BandAreas x = new BandAreas();
        x.box(-2, -2, 2, 2, 0);
        for (int n = 0; n <= 11; n++) {
            int want = n <= 9 ? n : NONE;
            x.box(-1 + n, -1, 1, 1, 1);
            due(18, "by x", x.apart(0, 1), want);
            x.box(-2, -2 - n, 1, 1, 1);
            due(18, "by y", x.apart(0, 1), want);
            due(18, "about", x.apart(1, 0), want);
            x.box(-1 + n, -1 + n / 2, 1, 1, 1);
            due(18, "by both", x.apart(0, 1), want);
        }
        due(18, "nothing", x.apart(0, 2), NONE);
        due(18, "nothing", x.apart(2, 0), NONE);
        due(18, "itself", x.apart(0, 0), 0);
        due(18, "what stays", written(x, 0), "-2.0:-2.0;");
        due(18, "bad", x.apart(-1, 0), BAD);
        due(18, "bad", x.apart(0, 5), BAD);
        due(18, "bad", x.apart(5, 0), BAD);
        due(18, "bad", x.apart(0, -1), BAD);
        due(18, "BAD", x.told(0), 4);
        // growing this one would be FULL; how far it is can be told all the same
        x = new BandAreas();
        for (int k = 0; k < 31; k++) {
            put(x, 0, -60 + 3 * k, -59 + 3 * k, 1, 1);
        }
        x.box(59, 33, 1, 1, 1);
        due(18, "far", x.apart(0, 1), NONE);
        x.box(34, 35, 1, 1, 1);
        due(18, "of an intricate one", x.apart(0, 1), 4);
        due(18, "FULL", x.told(2), 0);
    }

    private static void type() {
        BandAreas x = new BandAreas();
        due(19, "bad", x.type(-1), BAD);
        due(19, "bad", x.type(128), BAD);
        due(19, "bad", x.type(LOW), BAD);
        due(19, "the least", x.type(0), 1);
        due(19, "the greatest", x.type(127), 2);
        for (int k = 3; k <= 120; k++) {
            due(19, "byte " + k, x.type(' '), k);
        }
        due(19, "byte 121", x.type(' '), FULL);
        due(19, "BAD is first", x.type(128), BAD);
        due(19, "bytes", x.told(3), 120);
        due(19, "BAD", x.told(0), 4);
        due(19, "FULL", x.told(2), 1);
        due(20, "clear()", x.clear(), 120);
        due(20, "clear()", x.clear(), 0);
        due(20, "bytes", x.told(3), 0);
        due(19, "byte 1", x.type('0'), 1);
    }

    private static void sentences() {
        BandAreas x = new BandAreas();
        due(21, "box", tell(x, "1 box -3 -2 5 3;"), 1);
        due(21, "it", written(x, 1), "-2.1:-3.2;");
        due(21, "be", tell(x, "0 be 1;"), 1);
        due(21, "it", written(x, 0), "-2.1:-3.2;");
        due(21, "move", tell(x, "0 move 2 -1;"), 1);
        due(21, "it", written(x, 0), "-3.0:-1.4;");
        due(21, "or", tell(x, "2 be 0; 2 or 1;"), 2);
        due(21, "it", written(x, 2), "-3.-2:-1.4;-2.0:-3.4;0.1:-3.2;");
        due(21, "and", tell(x, "2 be 0; 2 and 1;"), 2);
        due(21, "it", written(x, 2), "-2.0:-1.2;");
        due(21, "but", tell(x, "2 be 0; 2 but 1;"), 2);
        due(21, "it", written(x, 2), "-3.-2:-1.4;-2.0:2.4;");
        due(21, "xor", tell(x, "2 be 0; 2 xor 1;"), 2);
        due(21, "it", written(x, 2), "-3.-2:-1.4;-2.0:-3.-1,2.4;0.1:-3.2;");
        due(21, "flip", tell(x, "0 flip;"), 1);
        due(21, "it", written(x, 0), "-3.0:-4.1;");
        due(21, "turn", tell(x, "0 turn;"), 1);
        due(21, "it", written(x, 0), "-4.1:-3.0;");
        due(21, "grow", tell(x, "0 grow 9;"), 1);
        due(21, "it", written(x, 0), "-13.10:-12.9;");
        due(21, "shrink", tell(x, "0 shrink 3;"), 1);
        due(21, "it", written(x, 0), "-10.7:-9.6;");
        due(21, "none", tell(x, "0 none;"), 1);
        due(21, "it", written(x, 0), "");
        due(21, "the text stays", x.told(3), 7);
        due(21, "what was not told", written(x, 1), "-2.1:-3.2;");
        due(21, "itself", tell(x, "1 xor 1;"), 1);
        due(21, "it", written(x, 1), "");
    }

    private static void blanks() {
        BandAreas x = new BandAreas();
        due(21, "no blanks", tell(x, "0box-3-2 5 3;1be0;1move-9-9;"), 3);
        due(21, "it", written(x, 1), "-11.-8:-12.-7;");
        due(21, "many blanks", tell(x, "   0   none   ;   1   flip   ;   "), 2);
        due(21, "it", written(x, 1), "-11.-8:7.12;");
        StringBuilder s = new StringBuilder();
        for (int k = 0; k < 24; k++) {
            s.append("0or1;");
        }
        due(21, "24 sentences", tell(x, s.toString()), 24);
        due(21, "it", x.two(0, 1, 0), 1);
        due(21, "two figures", tell(x, "04 be 01; 4 move -00 00; -0 grow 09;"), 3);
        due(21, "once more, as it is by then", tell(x, "0 box 0 0 1 1; 0 grow 1; 0 grow 1; 1 be 0; 0 none;"), 5);
        due(21, "it", written(x, 1), "-2.3:-2.3;");
        due(21, "again", x.does(), 5);
    }

    private static void fault(BandAreas x, String text, int place) {
        long before = x.digest();
        x.clear();
        for (int k = 0; k < text.length(); k++) {
            x.type(text.charAt(k));
        }
        due(21, "does() of \"" + text + "\"", x.does(), -300 - place);
        x.clear();
        due(21, "what stays after \"" + text + "\"", x.digest(), before);
    }

    private static void faults() {
        // | stands where the fault is
        String[] wrongAt = {
            "|", "  |", "|;", "|x", "|5 none;", "|-1 none;", "|10 none;", "|123 none;", "|- 1 none;", "|-", "|--1 none;",
            "0|", "0 |", "0 |;", "0 |1 none;", "0 |non;", "0 |nonee;", "0 |None;", "0 none|", "0 none  |", "0 none |1;",
            "0 none |x;", "0 none;|;", "0 none; |none;", "0 none; 1|", "0 none; 1 flip; 2 |flop;", "0 be|", "0 be |;",
            "0 be |5;", "0 be |-1;", "0 be 1|", "0 be 1 |2;", "0 be |12;", "0 be |100;", "0 be |be;", "0 |bebe 1;",
            "0 box |-61 0 1 1;", "0 box |60 0 1 1;", "0 box 0 |-61 1 1;", "0 box 0 |60 1 1;", "0 box 0 0 |0 1;",
            "0 box 0 0 |-1 1;", "0 box 0 0 1 |0;", "0 box 0 0 |100 1;", "0 box 0 0 1 |100;", "0 box 0 0 1|;",
            "0 box 0 0 1 1 |1;", "0 box -59-59|;", "0 box 0 0 |- 1 1;", "0 box 0 |-;", "0 box 0 |-x;", "0 box |000 0 1 1;",
            "0 move |100 0;", "0 move 0 |-100;", "0 move 1|;", "0 move 1 1 |1;", "0 grow |0;", "0 grow |10;", "0 grow |-1;",
            "0 shrink |0;", "0 shrink |10;", "0 shrink|", "0 |shrinks 1;", "0 flip |1;", "0 turn |0;", "0 or |5;", "0 and|;",
            "0 but |x;", "0 xor |-4;", "|\t0 none;", "0|\nnone;", "0 none|.", "0 none;|A", "0 |b", "0 |", "0 none; -0|-",
            "0|x", "0 none;1 none;|22 none;", "0 |no", "0 box 0 0 1 1; 0 box 59 0 2 1; 1 be |7;"};
        BandAreas x = new BandAreas();
        int asked = 0;
        for (String row : wrongAt) {
            int place = row.indexOf('|');
            String text = row.replace("|", "");
            if (asked++ % 8 == 0) {
                x = new BandAreas();
                tell(x, "0 box -5 -5 9 9; 1 box 0 0 3 3;");
                x.clear();
            }
            fault(x, text, place);
            due(21, "nothing counts", x.told(0) + x.told(1) + x.told(2), 0);
        }
    }

    private static void refusedSentences() {
        BandAreas x = new BandAreas();
        tell(x, "0 box 10 10 3 3; 1 box 0 0 2 2;");
        due(21, "box beyond", tell(x, "1 none; 0 be 1; 2 box 59 0 2 1; 3 be 0;"), NO);
        due(21, "nothing is done", written(x, 0) + written(x, 1), "10.13:10.13;0.2:0.2;");
        due(21, "nor the third", x.of(2, 0), 0);
        due(21, "move beyond", tell(x, "0 move 47 0; 0 move 1 0;"), NO);
        due(21, "nothing is done", written(x, 0), "10.13:10.13;");
        due(21, "counted once each", x.told(1), 2);
        due(21, "in time", tell(x, "0 move 47 47;0 move -99 -99; 0 move -18 -18; 2 be 0;"), 4);
        due(21, "it", written(x, 2), "-60.-57:-60.-57;");
        due(21, "none moves", tell(x, "0 none; 0 move 99 99;"), 2);
        x = brimful();
        due(21, "FULL", tell(x, "1 box 10 10 1 1; 2 none; 0 or 1; 3 box 0 0 99 99;"), FULL);
        due(21, "nothing is done", x.of(0, 2), 300);
        due(21, "nor the first", x.hit(1, 10, 10), 0);
        due(21, "FULL", x.told(2), 1);
        due(21, "FULL behind what could be done", tell(x, "0 flip; 0 move -1 0; 1 be 0; 1 box 10 10 1 1; 1 or 0;"), FULL);
        due(21, "NO is found first", tell(x, "2 box 59 59 9 9; 1 box 10 10 1 1; 1 or 0;"), NO);
        due(21, "FULL is found first", tell(x, "1 box 10 10 1 1; 1 or 0; 2 box 59 59 9 9;"), FULL);
        due(21, "turn, grow", tell(x, "0 turn; 0 flip; 0 turn; 0 grow 1; 0 shrink 1;"), 5);
    }

    private static void writing() {
        BandAreas x = new BandAreas();
        put(x, 0, -60, -60, 5, 9);
        put(x, 0, -9, -60, 9, 9);
        put(x, 0, 10, -60, 50, 9);
        put(x, 0, 0, 0, 60, 60);
        String want = "-60.-51:-60.-55,-9.0,10.60;0.60:0.60;";
        due(22, "length", x.writing(0, -1), want.length());
        for (int k = 0; k < want.length(); k++) {
            due(22, "sign " + k, x.writing(0, k), want.charAt(k));
        }
        due(22, "the one behind", x.writing(0, want.length()), NONE);
        due(22, "far behind", x.writing(0, HIGH), NONE);
        due(22, "of nothing", x.writing(1, 0), NONE);
        due(22, "of nothing", x.writing(1, -1), 0);
        due(22, "bad", x.writing(0, -2), BAD);
        due(22, "bad", x.writing(0, LOW), BAD);
        due(22, "bad", x.writing(-1, 0), BAD);
        due(22, "bad", x.writing(5, 0), BAD);
        due(22, "BAD", x.told(0), 4);
        due(23, "mark(0)", x.mark(0), want.hashCode());
        due(23, "mark(1)", x.mark(1), 0);
        due(23, "bad", x.mark(-1), BAD);
        due(23, "bad", x.mark(5), BAD);
        due(23, "BAD", x.told(0), 6);
    }

    private static void told() {
        BandAreas x = new BandAreas();
        x.box(0, 0, 2, 2, 0);
        x.box(0, 0, 3, 3, 4);
        x.corner(1, 1);
        x.type('x');
        x.type('x');
        x.box(59, 0, 2, 1, 0);
        x.round(0);
        x.hit(9, 0, 0);
        due(24, "bad", x.told(6), BAD);
        due(24, "bad", x.told(-1), BAD);
        due(24, "bad", x.told(HIGH), BAD);
        int[] want = {4, 2, 0, 2, 1, 13};
        for (int what = 0; what < 6; what++) {
            due(24, "told(" + what + ")", x.told(what), want[what]);
        }
    }

    private static void digest() {
        BandAreas x = new BandAreas();
        x.box(-7, 3, 4, 5, 1);
        x.rest(1, 3);
        x.corner(0, 0);
        x.type('a');
        x.round(1);
        x.round(7);
        due(25, "digest()", x.digest(), digestOf(x));
        due(25, "of a new one", new BandAreas().digest(), digestOf(new BandAreas()));
        due(25, "once more", x.digest(), x.digest());
        long one = 1979;
        for (int k = 0; k < 26; k++) {
            one *= 31;
        }
        due(25, "of nothing", new BandAreas().digest(), one);
    }

    private static long digestOf(BandAreas x) {
        long h = 1979;
        for (int what = 0; what < 6; what++) {
            h = 31 * h + x.told(what);
        }
        for (int a = 0; a < 5; a++) {
            for (int what = 0; what < 3; what++) {
                h = 31 * h + x.of(a, what);
            }
            h = 31 * h + x.mark(a);
        }
        return h;
    }

    public static void main(String[] args) {
        fresh();
        box();
        mix();
        mixFull();
        move();
        grow();
        growFull();
        flip();
        rest();
        part();
        corner();
        round();
        roundFull();
        draw();
        hit();
        of();
        span();
        two();
        neighbours();
        common();
        across();
        apart();
        type();
        sentences();
        blanks();
        faults();
        refusedSentences();
        writing();
        told();
        digest();
        System.out.println(wrong == 0 ? checks + " answers are as due" : wrong + " answers are not as due");
        if (wrong != 0) {
            System.exit(1);
        }
    }
}
