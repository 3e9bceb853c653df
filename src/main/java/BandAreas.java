import java.util.Arrays;

/** Areas of a plane of cells, x and y each -60 .. 59; see README.md and the document. */
public final class BandAreas {
    public static final int NONE = -201, BAD = -202, NO = -203, FULL = -204;

    private static final int LEAST = -60;
    private static final int BEHIND = 60;
    private static final int HALF = 60;
    private static final int ROWS = 120;
    /** The 60 bits of half a row. */
    private static final long ALL = 0x0FFFFFFFFFFFFFFFL;

    private static final int AREAS = 5;
    private static final int MOST_BANDS = 60;
    private static final int MOST_SPANS = 300;
    private static final int MOST_CORNERS = 10;
    private static final int MOST_BYTES = 120;
    /** The shortest sentence, such as 0be1; has 5 bytes. */
    private static final int MOST_SENTENCES = MOST_BYTES / 5;
    private static final int FAULTS = -300;

    private static final int OR = 0, AND = 1, BUT = 2;
    private static final int FLIP_X = 0, FLIP_Y = 1, TURN = 2;

    private Area[] areas;
    /** Where sentences are tried, so that nothing is done when one of them can not be. */
    private Area[] trial;
    /** What a call makes, before it is known that it may be kept. */
    private Area made;
    private final Form form;
    private final Ring ring;
    private final Script script;
    private final Scribe scribe;
    /** How often BAD, NO, FULL. */
    private final int[] refused;

    public BandAreas() {
        areas = new Area[AREAS];
        trial = new Area[AREAS];
        for (int a = 0; a < AREAS; a++) {
            areas[a] = new Area();
            trial[a] = new Area();
        }
        made = new Area();
        form = new Form();
        ring = new Ring();
        script = new Script();
        scribe = new Scribe();
        refused = new int[3];
    }

    // ---- areas

    public int box(int x, int y, int w, int h, int to) {
        boolean good = isPlace(x) && isPlace(y) && within(w, 1, 99) && within(h, 1, 99) && isArea(to);
        if (!good) {
            return answer(BAD);
        }
        return answer(layBox(x, y, w, h) ? keep(areas, to) : NO);
    }

    public int mix(int sort, int a, int b, int to) {
        if (!within(sort, 0, 3) || !isArea(a) || !isArea(b) || !isArea(to)) {
            return answer(BAD);
        }
        made.combine(sort, areas[a], areas[b]);
        return answer(keep(areas, to));
    }

    public int move(int a, int x, int y, int to) {
        if (!isArea(a) || !within(x, -120, 120) || !within(y, -120, 120) || !isArea(to)) {
            return answer(BAD);
        }
        return answer(layMoved(areas[a], x, y) ? keep(areas, to) : NO);
    }

    public int grow(int a, int n, int to) {
        if (!isArea(a) || !within(n, -9, 9) || !isArea(to)) {
            return answer(BAD);
        }
        layGrown(areas[a], n);
        return answer(keep(areas, to));
    }

    public int flip(int a, int way, int to) {
        if (!isArea(a) || !within(way, 0, 2) || !isArea(to)) {
            return answer(BAD);
        }
        layTurned(areas[a], way);
        return answer(keep(areas, to));
    }

    public int rest(int a, int to) {
        if (!isArea(a) || !isArea(to)) {
            return answer(BAD);
        }
        made.copy(areas[a]);
        made.invert();
        return answer(keep(areas, to));
    }

    public int part(int a, int x, int y, int to) {
        if (!isArea(a) || !isPlace(x) || !isPlace(y) || !isArea(to)) {
            return answer(BAD);
        }
        if (!areas[a].holds(x, y)) {
            return answer(NO);
        }
        form.read(areas[a]);
        form.joinParts();
        form.layPart(made, x, y);
        return answer(keep(areas, to));
    }

    public int corner(int x, int y) {
        if (!within(x, LEAST, BEHIND) || !within(y, LEAST, BEHIND)) {
            return answer(BAD);
        }
        return answer(ring.add(x, y) ? ring.count : FULL);
    }

    public int round(int to) {
        if (!isArea(to)) {
            return answer(BAD);
        }
        if (ring.count < 3) {
            return answer(NO);
        }
        ring.lay(made);
        int cells = keep(areas, to);
        if (cells != FULL) {
            ring.count = 0;
        }
        return answer(cells);
    }

    public int draw(int seed, int n, int to) {
        if (!within(seed, 0, 999999) || !within(n, 1, 9) || !isArea(to)) {
            return answer(BAD);
        }
        layDrawn(seed, n);
        return answer(keep(areas, to));
    }

    // ---- what they are

    public int hit(int a, int x, int y) {
        if (!isArea(a)) {
            return answer(BAD);
        }
        return isPlace(x) && isPlace(y) && areas[a].holds(x, y) ? 1 : 0;
    }

    public int of(int a, int what) {
        if (!isArea(a) || !within(what, 0, 8)) {
            return answer(BAD);
        }
        switch (what) {
            case 0: return areas[a].cells();
            case 4: return areas[a].sidesRound();
            default: form.read(areas[a]); return form.measure(what);
        }
    }

    public int span(int a, int k, int what) {
        if (!isArea(a) || k < 0 || !within(what, 0, 3)) {
            return answer(BAD);
        }
        form.read(areas[a]);
        return k < form.spans ? form.spanSide(k, what) : NONE;
    }

    public int two(int a, int b, int what) {
        if (!isArea(a) || !isArea(b) || !within(what, 0, 3)) {
            return answer(BAD);
        }
        boolean so;
        switch (what) {
            case 0: so = areas[a].isIn(areas[b]) && areas[b].isIn(areas[a]); break;
            case 1: so = areas[a].isIn(areas[b]); break;
            case 2: so = areas[a].meets(areas[b]); break;
            default: so = areas[a].touches(areas[b]); break;
        }
        return so ? 1 : 0;
    }

    public int common(int a, int b) {
        if (!isArea(a) || !isArea(b)) {
            return answer(BAD);
        }
        made.combine(AND, areas[a], areas[b]);
        return made.cells();
    }

    public int across(int a, int line, int v) {
        if (!isArea(a) || !within(line, 0, 1) || !isPlace(v)) {
            return answer(BAD);
        }
        return line == 0 ? areas[a].cellsInRow(v) : areas[a].cellsInColumn(v);
    }

    public int apart(int a, int b) {
        if (!isArea(a) || !isArea(b)) {
            return answer(BAD);
        }
        made.copy(areas[a]);
        for (int n = 0; n <= 9; n++) {
            if (made.meets(areas[b])) {
                return n;
            }
            made.spread(false);
        }
        return NONE;
    }

    // ---- words

    public int type(int c) {
        if (!within(c, 0, 127)) {
            return answer(BAD);
        }
        return answer(script.add(c) ? script.length : FULL);
    }

    public int clear() {
        int had = script.length;
        script.length = 0;
        return had;
    }

    public int does() {
        int fault = script.parse();
        if (fault >= 0) {
            return FAULTS - fault;
        }
        for (int a = 0; a < AREAS; a++) {
            trial[a].copy(areas[a]);
        }
        for (int k = 0; k < script.count; k++) {
            int cells = perform(k);
            if (cells < 0) {
                return answer(cells);
            }
        }
        Area[] before = areas;
        areas = trial;
        trial = before;
        return script.count;
    }

    public int writing(int a, int k) {
        if (!isArea(a) || k < -1) {
            return answer(BAD);
        }
        scribe.begin(k);
        writeOut(a);
        return k == -1 ? scribe.length : scribe.found;
    }

    public int mark(int a) {
        if (!isArea(a)) {
            return answer(BAD);
        }
        scribe.begin(-1);
        writeOut(a);
        return scribe.hash;
    }

    public int told(int what) {
        switch (what) {
            case 0: case 1: case 2: return refused[what];
            case 3: return script.length;
            case 4: return ring.count;
            case 5: return cellsOfAll();
            default: return answer(BAD);
        }
    }

    public long digest() {
        long h = 1979;
        for (int what = 0; what <= 5; what++) {
            h = 31 * h + told(what);
        }
        for (int a = 0; a < AREAS; a++) {
            h = 31 * h + of(a, 0);
            h = 31 * h + of(a, 1);
            h = 31 * h + of(a, 2);
            h = 31 * h + mark(a);
        }
        return h;
    }

    // ---- what the calls share

    private static boolean within(int v, int least, int greatest) {
        return v >= least && v <= greatest;
    }

    private static boolean isPlace(int v) {
        return within(v, LEAST, BEHIND - 1);
    }

    private static boolean isArea(int a) {
        return within(a, 0, AREAS - 1);
    }

    /** Every answer that may be a refusal goes through here once, so that it is counted. */
    private int answer(int result) {
        if (within(result, FULL, BAD)) {
            refused[BAD - result]++;
        }
        return result;
    }

    /** What was made becomes one of the areas: how many cells; or FULL, and nothing changes. */
    private int keep(Area[] all, int to) {
        if (!form.read(made)) {
            return FULL;
        }
        Area old = all[to];
        all[to] = made;
        made = old;
        return all[to].cells();
    }

    private boolean layBox(int x, int y, int w, int h) {
        if (x + w > BEHIND || y + h > BEHIND) {
            return false;
        }
        made.empty();
        made.fill(x, y, x + w, y + h);
        return true;
    }

    private boolean layMoved(Area a, int x, int y) {
        form.read(a);
        if (!form.staysInside(x, y)) {
            return false;
        }
        form.layMoved(made, x, y);
        return true;
    }

    /** Below 0: shrunk. That is: what is not of it is grown, and all that lies beyond with it. */
    private void layGrown(Area a, int n) {
        made.copy(a);
        if (n < 0) {
            made.invert();
        }
        for (int step = Math.abs(n); step > 0; step--) {
            made.spread(n < 0);
        }
        if (n < 0) {
            made.invert();
        }
    }

    private void layTurned(Area a, int way) {
        form.read(a);
        form.layTurned(made, way);
    }

    private void layDrawn(int seed, int n) {
        made.empty();
        long drawn = seed;
        for (int k = 0; k < n; k++) {
            drawn = (drawn * 1103515245L + 12345L) % 2147483648L;
            int x = (int) (drawn / 65536L % 40L) - 25;
            int y = (int) (drawn / 4096L % 40L) - 25;
            int w = (int) (drawn / 1024L % 12L) + 1;
            int h = (int) (drawn / 32L % 12L) + 1;
            made.fill(x, y, x + w, y + h);
        }
    }

    /** Does the k-th sentence among the areas on trial: how many cells; NO; FULL. */
    private int perform(int k) {
        int to = script.areaOf(k);
        int n = script.numberOf(k, 0);
        int word = script.wordOf(k);
        Area own = trial[to];
        boolean fits = true;
        switch (word) {
            case Script.BE: made.copy(trial[n]); break;
            case Script.BOX:
                fits = layBox(n, script.numberOf(k, 1), script.numberOf(k, 2), script.numberOf(k, 3));
                break;
            case Script.EMPTY: made.empty(); break;
            case Script.OR_WITH: case Script.AND_WITH: case Script.BUT_NOT: case Script.XOR_WITH:
                made.combine(word - Script.OR_WITH, own, trial[n]);
                break;
            case Script.SHIFT: fits = layMoved(own, n, script.numberOf(k, 1)); break;
            case Script.WIDEN: layGrown(own, n); break;
            case Script.NARROW: layGrown(own, -n); break;
            case Script.MIRROR: layTurned(own, FLIP_X); break;
            default: layTurned(own, TURN); break;
        }
        return fits ? keep(trial, to) : NO;
    }

    private void writeOut(int a) {
        form.read(areas[a]);
        form.write(scribe);
    }

    private int cellsOfAll() {
        int sum = 0;
        for (int a = 0; a < AREAS; a++) {
            sum += areas[a].cells();
        }
        return sum;
    }

    /**
     * A set of cells, a bit each. Row y stands at y + 60; its cells with x below 0 are the bits
     * x + 60 of west, the others the bits x of east.
     */
    private static final class Area {
        final long[] west;
        final long[] east;

        Area() {
            west = new long[ROWS];
            east = new long[ROWS];
        }

        void empty() {
            Arrays.fill(west, 0L);
            Arrays.fill(east, 0L);
        }

        void copy(Area other) {
            System.arraycopy(other.west, 0, west, 0, ROWS);
            System.arraycopy(other.east, 0, east, 0, ROWS);
        }

        /** Puts the cells of a box to it; those beyond the plane are left out. */
        void fill(int x, int y, int xBehind, int yBehind) {
            long inWest = bits(x + HALF, xBehind + HALF);
            long inEast = bits(x, xBehind);
            int behind = Math.min(yBehind, BEHIND) + HALF;
            for (int row = Math.max(y, LEAST) + HALF; row < behind; row++) {
                west[row] |= inWest;
                east[row] |= inEast;
            }
        }

        /** Turns over every cell of row y that lies left of xBehind. */
        void turnOverLeft(int y, int xBehind) {
            int row = y + HALF;
            if (row >= 0 && row < ROWS) {
                west[row] ^= bits(0, xBehind + HALF);
                east[row] ^= bits(0, xBehind);
            }
        }

        /** The bits from .. behind - 1, as far as half a row has them. */
        private static long bits(int from, int behind) {
            int first = Math.max(from, 0);
            int many = Math.min(behind, HALF) - first;
            return many <= 0 ? 0L : ALL >>> (HALF - many) << first;
        }

        void combine(int sort, Area a, Area b) {
            for (int row = 0; row < ROWS; row++) {
                west[row] = combined(sort, a.west[row], b.west[row]);
                east[row] = combined(sort, a.east[row], b.east[row]);
            }
        }

        private static long combined(int sort, long a, long b) {
            switch (sort) {
                case OR: return a | b;
                case AND: return a & b;
                case BUT: return a & ~b;
                default: return a ^ b;
            }
        }

        void invert() {
            for (int row = 0; row < ROWS; row++) {
                west[row] = ~west[row] & ALL;
                east[row] = ~east[row] & ALL;
            }
        }

        /** Grows by one on all sides; whether what lies beyond the plane grows into it, too. */
        void spread(boolean beyond) {
            long edge = beyond ? ALL : 0L;
            spreadSideways(edge);
            spreadUpAndDown(west, edge);
            spreadUpAndDown(east, edge);
        }

        private void spreadSideways(long edge) {
            long first = edge & 1L;
            long last = first << (HALF - 1);
            for (int row = 0; row < ROWS; row++) {
                long w = west[row];
                long e = east[row];
                west[row] = (w | w << 1 | first | w >>> 1 | e << (HALF - 1)) & ALL;
                east[row] = (e | e << 1 | w >>> (HALF - 1) | e >>> 1 | last) & ALL;
            }
        }

        private static void spreadUpAndDown(long[] half, long edge) {
            long above = edge;
            for (int row = 0; row < ROWS; row++) {
                long own = half[row];
                long below = row + 1 < ROWS ? half[row + 1] : edge;
                half[row] = above | own | below;
                above = own;
            }
        }

        boolean holds(int x, int y) {
            int row = y + HALF;
            long half = x < 0 ? west[row] : east[row];
            int bit = x < 0 ? x + HALF : x;
            return (half >>> bit & 1L) != 0L;
        }

        int cells() {
            int sum = 0;
            for (int row = 0; row < ROWS; row++) {
                sum += Long.bitCount(west[row]) + Long.bitCount(east[row]);
            }
            return sum;
        }

        int cellsInRow(int y) {
            return Long.bitCount(west[y + HALF]) + Long.bitCount(east[y + HALF]);
        }

        int cellsInColumn(int x) {
            int sum = 0;
            for (int y = LEAST; y < BEHIND; y++) {
                sum += holds(x, y) ? 1 : 0;
            }
            return sum;
        }

        boolean isIn(Area other) {
            for (int row = 0; row < ROWS; row++) {
                if ((west[row] & ~other.west[row] | east[row] & ~other.east[row]) != 0L) {
                    return false;
                }
            }
            return true;
        }

        boolean meets(Area other) {
            for (int row = 0; row < ROWS; row++) {
                if ((west[row] & other.west[row] | east[row] & other.east[row]) != 0L) {
                    return true;
                }
            }
            return false;
        }

        /** Whether a cell lies beside one of the other's (over a side) or is of it. */
        boolean touches(Area other) {
            for (int row = 0; row < ROWS; row++) {
                long w = west[row];
                long e = east[row];
                long nearWest = w | w << 1 | w >>> 1 | e << (HALF - 1);
                long nearEast = e | e << 1 | e >>> 1 | w >>> (HALF - 1);
                if (row > 0) {
                    nearWest |= west[row - 1];
                    nearEast |= east[row - 1];
                }
                if (row + 1 < ROWS) {
                    nearWest |= west[row + 1];
                    nearEast |= east[row + 1];
                }
                // the other's bits are 60 at most, so what was pushed beyond them meets nothing
                if ((nearWest & other.west[row] | nearEast & other.east[row]) != 0L) {
                    return true;
                }
            }
            return false;
        }

        int sidesRound() {
            int sum = 0;
            long westAbove = 0L;
            long eastAbove = 0L;
            for (int row = 0; row < ROWS; row++) {
                long w = west[row];
                long e = east[row];
                sum += Long.bitCount(w ^ westAbove) + Long.bitCount(e ^ eastAbove);
                sum += Long.bitCount(westSides(w)) + Long.bitCount(eastSides(w, e));
                westAbove = w;
                eastAbove = e;
            }
            return sum + Long.bitCount(westAbove) + Long.bitCount(eastAbove);
        }

        /** The bits of a row's western half that differ from the one before them. */
        static long westSides(long w) {
            return (w ^ w << 1) & ALL;
        }

        /** Likewise in the eastern half; its bit 60 is the side behind the plane's last cell. */
        static long eastSides(long w, long e) {
            return e ^ (e << 1 | w >>> (HALF - 1));
        }
    }

    /** THE FORM of one area at a time: its bands and spans, and which spans hang together. */
    private static final class Form {
        final int[] top;
        final int[] bottom;
        /** The first span of each band. */
        final int[] first;
        /** The band of each span. */
        final int[] bandOf;
        /** Of span k: x at 2 k, the x behind at 2 k + 1. */
        final int[] sides;
        /** Spans that hang together lead to the same span that leads to itself. */
        final int[] leadsTo;
        int bands;
        int spans;

        Form() {
            top = new int[MOST_BANDS];
            bottom = new int[MOST_BANDS];
            first = new int[MOST_BANDS];
            bandOf = new int[MOST_SPANS];
            sides = new int[2 * MOST_SPANS];
            leadsTo = new int[MOST_SPANS];
        }

        /** Whether the area has no more bands and spans than it may; only then the form is whole. */
        boolean read(Area area) {
            bands = 0;
            spans = 0;
            long westAbove = 0L;
            long eastAbove = 0L;
            for (int row = 0; row < ROWS; row++) {
                long w = area.west[row];
                long e = area.east[row];
                if ((w | e) != 0L) {
                    if (bands > 0 && w == westAbove && e == eastAbove) {
                        bottom[bands - 1]++;
                    } else if (!addBand(row - HALF, w, e)) {
                        return false;
                    }
                }
                westAbove = w;
                eastAbove = e;
            }
            return true;
        }

        private boolean addBand(int y, long w, long e) {
            long inWest = Area.westSides(w);
            long inEast = Area.eastSides(w, e);
            int more = (Long.bitCount(inWest) + Long.bitCount(inEast)) / 2;
            if (bands >= MOST_BANDS || spans + more > MOST_SPANS) {
                return false;
            }
            int at = addSides(inWest, LEAST, 2 * spans);
            addSides(inEast, LEAST + HALF, at);
            top[bands] = y;
            bottom[bands] = y + 1;
            first[bands] = spans;
            for (int k = spans; k < spans + more; k++) {
                bandOf[k] = bands;
            }
            bands++;
            spans += more;
            return true;
        }

        /** Each bit is a side of a span: puts them down from a place on, and tells the place behind. */
        private int addSides(long bits, int x, int from) {
            int behind = Math.min(from + Long.bitCount(bits), sides.length);
            long left = bits;
            for (int at = from; at < behind; at++) {
                long lowest = left & -left;
                sides[at] = x + Long.bitCount(lowest - 1L);
                left ^= lowest;
            }
            return behind;
        }

        /** x (0), the x behind (1), y (2), the y behind (3) of a span that there is. */
        int spanSide(int k, int what) {
            switch (what) {
                case 0: return sides[2 * k];
                case 1: return sides[2 * k + 1];
                case 2: return top[bandOf[k]];
                default: return bottom[bandOf[k]];
            }
        }

        int measure(int what) {
            switch (what) {
                case 1: return bands;
                case 2: return spans;
                case 3: return joinParts();
                default: return spans == 0 ? NONE : border(what);
            }
        }

        /** The least x (5), the x behind (6), the least y (7), the y behind (8), if not empty. */
        int border(int what) {
            int best = spanSide(0, what - 5);
            for (int k = 1; k < spans; k++) {
                int side = spanSide(k, what - 5);
                best = what == 5 || what == 7 ? Math.min(best, side) : Math.max(best, side);
            }
            return best;
        }

        boolean staysInside(int x, int y) {
            return spans == 0
                || border(5) + x >= LEAST && border(6) + x <= BEHIND
                && border(7) + y >= LEAST && border(8) + y <= BEHIND;
        }

        void layMoved(Area to, int x, int y) {
            to.empty();
            for (int k = 0; k < spans; k++) {
                to.fill(spanSide(k, 0) + x, spanSide(k, 2) + y, spanSide(k, 1) + x, spanSide(k, 3) + y);
            }
        }

        void layTurned(Area to, int way) {
            to.empty();
            for (int k = 0; k < spans; k++) {
                int x = spanSide(k, 0);
                int xBehind = spanSide(k, 1);
                int y = spanSide(k, 2);
                int yBehind = spanSide(k, 3);
                switch (way) {
                    case FLIP_X: to.fill(-xBehind, y, -x, yBehind); break;
                    case FLIP_Y: to.fill(x, -yBehind, xBehind, -y); break;
                    default: to.fill(y, x, yBehind, xBehind); break;
                }
            }
        }

        /** Finds which spans hang together: how many parts they are. */
        int joinParts() {
            int parts = spans;
            for (int k = 0; k < spans; k++) {
                leadsTo[k] = k;
                parts -= joinAbove(k);
            }
            return parts;
        }

        /** Joins a span to those of the band above that it lies at: how many parts fewer. */
        private int joinAbove(int k) {
            int band = bandOf[k];
            if (band == 0 || bottom[band - 1] != top[band]) {
                return 0;
            }
            int fewer = 0;
            for (int j = first[band - 1]; j < first[band]; j++) {
                if (sides[2 * j] < sides[2 * k + 1] && sides[2 * k] < sides[2 * j + 1] && join(j, k)) {
                    fewer++;
                }
            }
            return fewer;
        }

        /** Whether they did not hang together before. */
        private boolean join(int j, int k) {
            int lead = leader(j);
            int own = leader(k);
            leadsTo[own] = lead;
            return lead != own;
        }

        private int leader(int k) {
            int at = k;
            for (int step = 0; step < spans && leadsTo[at] != at; step++) {
                at = leadsTo[at];
            }
            return at;
        }

        /** Lays the part of a cell; which spans hang together has been found. */
        void layPart(Area to, int x, int y) {
            int lead = leaderAt(x, y);
            to.empty();
            for (int k = 0; k < spans; k++) {
                if (leader(k) == lead) {
                    to.fill(spanSide(k, 0), spanSide(k, 2), spanSide(k, 1), spanSide(k, 3));
                }
            }
        }

        private int leaderAt(int x, int y) {
            for (int k = 0; k < spans; k++) {
                if (within(x, spanSide(k, 0), spanSide(k, 1) - 1) && within(y, spanSide(k, 2), spanSide(k, 3) - 1)) {
                    return leader(k);
                }
            }
            return -1;
        }

        void write(Scribe scribe) {
            for (int k = 0; k < spans; k++) {
                int band = bandOf[k];
                if (k == first[band]) {
                    scribe.putPair(top[band], bottom[band], ':');
                }
                boolean last = k + 1 == spans || bandOf[k + 1] != band;
                scribe.putPair(sides[2 * k], sides[2 * k + 1], last ? ';' : ',');
            }
        }
    }

    /** Takes THE WRITING sign by sign, and keeps of it only what a call may ask for. */
    private static final class Scribe {
        int length;
        int hash;
        /** The sign that is wanted, by its place; NONE, as long as it hasn't come. */
        int found;
        private int wanted;

        void begin(int place) {
            length = 0;
            hash = 0;
            found = NONE;
            wanted = place;
        }

        void putPair(int number, int behind, char sign) {
            putNumber(number);
            put('.');
            putNumber(behind);
            put(sign);
        }

        private void putNumber(int number) {
            int size = Math.abs(number);
            if (number < 0) {
                put('-');
            }
            if (size >= 10) {
                put((char) ('0' + size / 10));
            }
            put((char) ('0' + size % 10));
        }

        private void put(char sign) {
            if (length == wanted) {
                found = sign;
            }
            length++;
            hash = 31 * hash + sign;
        }
    }

    /** THE CORNERS, and what is round them. */
    private static final class Ring {
        final int[] x;
        final int[] y;
        int count;

        Ring() {
            x = new int[MOST_CORNERS];
            y = new int[MOST_CORNERS];
        }

        boolean add(int cornerX, int cornerY) {
            if (count >= MOST_CORNERS) {
                return false;
            }
            x[count] = cornerX;
            y[count] = cornerY;
            count++;
            return true;
        }

        void lay(Area to) {
            to.empty();
            for (int k = 0; k < count; k++) {
                int next = k + 1 < count ? k + 1 : 0;
                if (y[k] < y[next]) {
                    laySide(to, k, next);
                } else if (y[k] > y[next]) {
                    laySide(to, next, k);
                }
            }
        }

        /** Turns over, in each row that the side goes through, all cells whose middles are left of it. */
        private void laySide(Area to, int upper, int lower) {
            int high = y[lower] - y[upper];
            int wide = x[lower] - x[upper];
            for (int row = y[upper]; row < y[lower]; row++) {
                // the side is crossed at crossing / (2 high); a middle x + 1/2 is left of that,
                // if x is below (crossing - high) / (2 high); a quotient is rounded up by turning signs
                int crossing = 2 * high * x[upper] + (2 * (row - y[upper]) + 1) * wide;
                to.turnOverLeft(row, -Math.floorDiv(high - crossing, 2 * high));
            }
        }
    }

    /** THE TEXT, and the sentences that it tells. */
    private static final class Script {
        static final int BE = 0, BOX = 1, EMPTY = 2, OR_WITH = 3, AND_WITH = 4, BUT_NOT = 5, XOR_WITH = 6,
            SHIFT = 7, WIDEN = 8, NARROW = 9, MIRROR = 10, WORDS = 12;
        /** The words as numbered above, then turn; each filled up to LETTERS. */
        private static final String ALL_WORDS =
            "be    box   none  or    and   but   xor   move  grow  shrinkflip  turn  ";
        private static final int LETTERS = 6;
        private static final int END = 0, WORD = 1, NUMBER = 2, STOP = 3, WRONG = 4;
        /** A sentence takes so many places: its area, its word, up to four numbers. */
        private static final int PLACES = 6;

        private final byte[] bytes;
        int length;
        private final int[] sentences;
        int count;
        private int at;
        /** What was read last: where it begins, what it is, which word or number. */
        private int start;
        private int kind;
        private int value;

        Script() {
            bytes = new byte[MOST_BYTES];
            sentences = new int[MOST_SENTENCES * PLACES];
        }

        boolean add(int c) {
            if (length >= MOST_BYTES) {
                return false;
            }
            bytes[length] = (byte) c;
            length++;
            return true;
        }

        int areaOf(int k) {
            return sentences[k * PLACES];
        }

        int wordOf(int k) {
            return sentences[k * PLACES + 1];
        }

        int numberOf(int k, int i) {
            return sentences[k * PLACES + 2 + i];
        }

        /** Reads all sentences: the fault, or -1. */
        int parse() {
            count = 0;
            at = 0;
            readNext();
            if (kind == END) {
                return start;
            }
            while (kind != END && count < MOST_SENTENCES) {
                if (!readSentence(count * PLACES)) {
                    return start;
                }
                count++;
                readNext();
            }
            return -1;
        }

        /** Its first number has been read; what was read last is the fault, if it is not as told. */
        private boolean readSentence(int place) {
            if (!isNumber(0, AREAS - 1)) {
                return false;
            }
            sentences[place] = value;
            readNext();
            if (kind != WORD) {
                return false;
            }
            int word = value;
            sentences[place + 1] = word;
            int numbers = numbersOf(word);
            for (int i = 0; i < numbers; i++) {
                readNext();
                if (!isNumber(least(word, i), greatest(word, i))) {
                    return false;
                }
                sentences[place + 2 + i] = value;
            }
            readNext();
            return kind == STOP;
        }

        private boolean isNumber(int least, int greatest) {
            return kind == NUMBER && within(value, least, greatest);
        }

        private static int numbersOf(int word) {
            switch (word) {
                case BOX: return 4;
                case SHIFT: return 2;
                case BE: case OR_WITH: case AND_WITH: case BUT_NOT: case XOR_WITH: case WIDEN: case NARROW: return 1;
                default: return 0;
            }
        }

        private static int least(int word, int i) {
            switch (word) {
                case BOX: return i < 2 ? LEAST : 1;
                case SHIFT: return -99;
                case WIDEN: case NARROW: return 1;
                default: return 0;
            }
        }

        private static int greatest(int word, int i) {
            switch (word) {
                case BOX: return i < 2 ? BEHIND - 1 : 99;
                case SHIFT: return 99;
                case WIDEN: case NARROW: return 9;
                default: return AREAS - 1;
            }
        }

        private void readNext() {
            while (at < length && bytes[at] == ' ') {
                at++;
            }
            start = at;
            if (at >= length) {
                kind = END;
            } else if (isLetter(at)) {
                readWord();
            } else if (bytes[at] == '-' || isFigure(at)) {
                readNumber();
            } else {
                kind = bytes[at] == ';' ? STOP : WRONG;
                at++;
            }
        }

        private void readWord() {
            while (at < length && isLetter(at)) {
                at++;
            }
            value = 0;
            while (value < WORDS && !isWord(value)) {
                value++;
            }
            kind = value < WORDS ? WORD : WRONG;
        }

        /** Whether the letters from start to at are a word of the list. */
        private boolean isWord(int word) {
            if (at - start > LETTERS) {
                return false;
            }
            for (int i = 0; i < LETTERS; i++) {
                int sign = start + i < at ? bytes[start + i] : ' ';
                if (ALL_WORDS.charAt(word * LETTERS + i) != sign) {
                    return false;
                }
            }
            return true;
        }

        private void readNumber() {
            boolean below = bytes[at] == '-';
            if (below) {
                at++;
            }
            int figures = 0;
            int size = 0;
            while (at < length && isFigure(at)) {
                size = figures < 2 ? 10 * size + bytes[at] - '0' : size;
                figures++;
                at++;
            }
            kind = figures == 1 || figures == 2 ? NUMBER : WRONG;
            value = below ? -size : size;
        }

        private boolean isLetter(int place) {
            return within(bytes[place], 'a', 'z');
        }

        private boolean isFigure(int place) {
            return within(bytes[place], '0', '9');
        }
    }
}
