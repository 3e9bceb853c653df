import java.util.ArrayDeque;
import java.util.ArrayList;
import java.util.List;
import java.util.regex.Matcher;
import java.util.regex.Pattern;

/**
 * Long runs of calls against a second program that does all of it cell by cell, as slowly and
 * plainly as the document says it: every answer, and the digest behind every call, must be the same.
 */
public final class ModelTest {
    private static int wrong = 0;

    /** What the document says, cell by cell. Cell x, y stands at [y + 60][x + 60]. */
    private static final class Model {
        boolean[][][] area = new boolean[5][120][120];
        final int[] refused = new int[3];
        final List<int[]> corners = new ArrayList<>();
        final StringBuilder text = new StringBuilder();

        private int no(int code) {
            refused[-202 - code]++;
            return code;
        }

        private static boolean in(int v, int least, int greatest) {
            return v >= least && v <= greatest;
        }

        private static boolean areas(int... a) {
            for (int one : a) {
                if (one < 0 || one > 4) {
                    return false;
                }
            }
            return true;
        }

        private static boolean at(boolean[][] c, int x, int y) {
            return in(x, -60, 59) && in(y, -60, 59) && c[y + 60][x + 60];
        }

        private static int cells(boolean[][] c) {
            int sum = 0;
            for (boolean[] row : c) {
                for (boolean one : row) {
                    sum += one ? 1 : 0;
                }
            }
            return sum;
        }

        /** Rows of {y, yBehind, x, xBehind, x, xBehind ..}. */
        private static List<int[]> bands(boolean[][] c) {
            List<int[]> bands = new ArrayList<>();
            for (int y = -60; y < 60; y++) {
                List<Integer> row = new ArrayList<>();
                for (int x = -60; x <= 60; x++) {
                    if (at(c, x, y) != at(c, x - 1, y)) {
                        row.add(x);
                    }
                }
                if (row.isEmpty()) {
                    continue;
                }
                int[] band = new int[row.size() + 2];
                band[0] = y;
                band[1] = y + 1;
                for (int k = 0; k < row.size(); k++) {
                    band[k + 2] = row.get(k);
                }
                int[] last = bands.isEmpty() ? null : bands.get(bands.size() - 1);
                boolean same = last != null && last[1] == y && last.length == band.length;
                for (int k = 2; same && k < band.length; k++) {
                    same = band[k] == last[k];
                }
                if (same) {
                    last[1]++;
                } else {
                    bands.add(band);
                }
            }
            return bands;
        }

        private static int spans(List<int[]> bands) {
            int sum = 0;
            for (int[] band : bands) {
                sum += band.length / 2 - 1;
            }
            return sum;
        }

        private static String written(boolean[][] c) {
            StringBuilder s = new StringBuilder();
            for (int[] band : bands(c)) {
                s.append(band[0]).append('.').append(band[1]).append(':');
                for (int k = 2; k < band.length; k += 2) {
                    s.append(k > 2 ? "," : "").append(band[k]).append('.').append(band[k + 1]);
                }
                s.append(';');
            }
            return s.toString();
        }

        private static boolean tooMuch(boolean[][] c) {
            List<int[]> bands = bands(c);
            return bands.size() > 60 || spans(bands) > 300;
        }

        private int set(boolean[][] c, int to) {
            if (tooMuch(c)) {
                return no(-204);
            }
            area[to] = c;
            return cells(c);
        }

        private static boolean[][] boxed(int x, int y, int w, int h) {
            boolean[][] c = new boolean[120][120];
            for (int j = y; j < y + h; j++) {
                for (int i = x; i < x + w; i++) {
                    if (!in(i, -60, 59) || !in(j, -60, 59)) {
                        return null;
                    }
                    c[j + 60][i + 60] = true;
                }
            }
            return c;
        }

        int box(int x, int y, int w, int h, int to) {
            if (!in(x, -60, 59) || !in(y, -60, 59) || !in(w, 1, 99) || !in(h, 1, 99) || !areas(to)) {
                return no(-202);
            }
            boolean[][] c = boxed(x, y, w, h);
            return c == null ? no(-203) : set(c, to);
        }

        private static boolean[][] mixed(int sort, boolean[][] a, boolean[][] b) {
            boolean[][] c = new boolean[120][120];
            for (int y = 0; y < 120; y++) {
                for (int x = 0; x < 120; x++) {
                    boolean p = a[y][x];
                    boolean q = b[y][x];
                    c[y][x] = sort == 0 ? p || q : sort == 1 ? p && q : sort == 2 ? p && !q : p != q;
                }
            }
            return c;
        }

        int mix(int sort, int a, int b, int to) {
            return !in(sort, 0, 3) || !areas(a, b, to) ? no(-202) : set(mixed(sort, area[a], area[b]), to);
        }

        private static boolean[][] moved(boolean[][] a, int dx, int dy) {
            boolean[][] c = new boolean[120][120];
            for (int y = -60; y < 60; y++) {
                for (int x = -60; x < 60; x++) {
                    if (at(a, x, y)) {
                        if (!in(x + dx, -60, 59) || !in(y + dy, -60, 59)) {
                            return null;
                        }
                        c[y + dy + 60][x + dx + 60] = true;
                    }
                }
            }
            return c;
        }

        int move(int a, int x, int y, int to) {
            if (!areas(a, to) || !in(x, -120, 120) || !in(y, -120, 120)) {
                return no(-202);
            }
            boolean[][] c = moved(area[a], x, y);
            return c == null ? no(-203) : set(c, to);
        }

        private static boolean[][] grown(boolean[][] a, int n) {
            boolean[][] c = new boolean[120][120];
            for (int y = -60; y < 60; y++) {
                for (int x = -60; x < 60; x++) {
                    boolean some = false;
                    boolean all = true;
                    int far = Math.abs(n);
                    for (int j = y - far; j <= y + far && (n < 0 ? all : !some); j++) {
                        for (int i = x - far; i <= x + far && (n < 0 ? all : !some); i++) {
                            some |= at(a, i, j);
                            all &= at(a, i, j);
                        }
                    }
                    c[y + 60][x + 60] = n < 0 ? all : some;
                }
            }
            return c;
        }

        int grow(int a, int n, int to) {
            return !areas(a, to) || !in(n, -9, 9) ? no(-202) : set(grown(area[a], n), to);
        }

        private static boolean[][] flipped(boolean[][] a, int way) {
            boolean[][] c = new boolean[120][120];
            for (int y = -60; y < 60; y++) {
                for (int x = -60; x < 60; x++) {
                    c[y + 60][x + 60] = way == 0 ? at(a, -1 - x, y) : way == 1 ? at(a, x, -1 - y) : at(a, y, x);
                }
            }
            return c;
        }

        int flip(int a, int way, int to) {
            return !areas(a, to) || !in(way, 0, 2) ? no(-202) : set(flipped(area[a], way), to);
        }

        int rest(int a, int to) {
            return !areas(a, to) ? no(-202) : set(mixed(2, boxedAll(), area[a]), to);
        }

        private static boolean[][] boxedAll() {
            return boxed(-60, -60, 120, 120);
        }

        private static boolean[][] partOf(boolean[][] a, int x, int y) {
            boolean[][] c = new boolean[120][120];
            ArrayDeque<int[]> left = new ArrayDeque<>();
            left.add(new int[] {x, y});
            while (!left.isEmpty()) {
                int[] p = left.remove();
                if (at(a, p[0], p[1]) && !at(c, p[0], p[1])) {
                    c[p[1] + 60][p[0] + 60] = true;
                    left.add(new int[] {p[0] + 1, p[1]});
                    left.add(new int[] {p[0] - 1, p[1]});
                    left.add(new int[] {p[0], p[1] + 1});
                    left.add(new int[] {p[0], p[1] - 1});
                }
            }
            return c;
        }

        int part(int a, int x, int y, int to) {
            if (!areas(a, to) || !in(x, -60, 59) || !in(y, -60, 59)) {
                return no(-202);
            }
            return at(area[a], x, y) ? set(partOf(area[a], x, y), to) : no(-203);
        }

        int corner(int x, int y) {
            if (!in(x, -60, 60) || !in(y, -60, 60)) {
                return no(-202);
            }
            if (corners.size() == 10) {
                return no(-204);
            }
            corners.add(new int[] {x, y});
            return corners.size();
        }

        private boolean isRound(int x, int y) {
            boolean odd = false;
            for (int k = 0; k < corners.size(); k++) {
                int[] p = corners.get(k);
                int[] q = corners.get((k + 1) % corners.size());
                boolean between = 2 * p[1] < 2 * y + 1 != 2 * q[1] < 2 * y + 1;
                // sizes are small enough: a crossing at a half is met exactly by a fraction of longs
                if (between) {
                    long down = q[1] - p[1];
                    long doubled = 2L * p[0] * down + (2L * y + 1 - 2L * p[1]) * (q[0] - p[0]);
                    boolean above = down > 0 ? doubled > (2L * x + 1) * down : doubled < (2L * x + 1) * down;
                    odd ^= above;
                }
            }
            return odd;
        }

        int round(int to) {
            if (!areas(to)) {
                return no(-202);
            }
            if (corners.size() < 3) {
                return no(-203);
            }
            boolean[][] c = new boolean[120][120];
            for (int y = -60; y < 60; y++) {
                for (int x = -60; x < 60; x++) {
                    c[y + 60][x + 60] = isRound(x, y);
                }
            }
            int answer = set(c, to);
            if (answer >= 0) {
                corners.clear();
            }
            return answer;
        }

        int draw(int seed, int n, int to) {
            if (!in(seed, 0, 999999) || !in(n, 1, 9) || !areas(to)) {
                return no(-202);
            }
            boolean[][] c = new boolean[120][120];
            long drawn = seed;
            for (int k = 0; k < n; k++) {
                drawn = (drawn * 1103515245L + 12345L) & 0x7fffffffL;
                int x = (int) ((drawn >> 16) % 40) - 25;
                int y = (int) ((drawn >> 12) % 40) - 25;
                int w = (int) ((drawn >> 10) % 12) + 1;
                int h = (int) ((drawn >> 5) % 12) + 1;
                c = mixed(0, c, boxed(x, y, w, h));
            }
            return set(c, to);
        }

        int hit(int a, int x, int y) {
            return !areas(a) ? no(-202) : at(area[a], x, y) ? 1 : 0;
        }

        private static int parts(boolean[][] a) {
            boolean[][] left = a;
            int parts = 0;
            for (int y = -60; y < 60; y++) {
                for (int x = -60; x < 60; x++) {
                    if (at(left, x, y)) {
                        parts++;
                        left = mixed(2, left, partOf(left, x, y));
                    }
                }
            }
            return parts;
        }

        private static int sides(boolean[][] a) {
            int sum = 0;
            for (int y = -60; y < 60; y++) {
                for (int x = -60; x < 60; x++) {
                    if (at(a, x, y)) {
                        sum += at(a, x + 1, y) ? 0 : 1;
                        sum += at(a, x - 1, y) ? 0 : 1;
                        sum += at(a, x, y + 1) ? 0 : 1;
                        sum += at(a, x, y - 1) ? 0 : 1;
                    }
                }
            }
            return sum;
        }

        private static int border(boolean[][] a, int what) {
            int best = -201;
            for (int y = -60; y < 60; y++) {
                for (int x = -60; x < 60; x++) {
                    if (at(a, x, y)) {
                        int v = what == 5 ? x : what == 6 ? x + 1 : what == 7 ? y : y + 1;
                        boolean less = what == 5 || what == 7;
                        best = best == -201 ? v : less ? Math.min(best, v) : Math.max(best, v);
                    }
                }
            }
            return best;
        }

        int of(int a, int what) {
            if (!areas(a) || !in(what, 0, 8)) {
                return no(-202);
            }
            switch (what) {
                case 0: return cells(area[a]);
                case 1: return bands(area[a]).size();
                case 2: return spans(bands(area[a]));
                case 3: return parts(area[a]);
                case 4: return sides(area[a]);
                default: return border(area[a], what);
            }
        }

        int span(int a, int k, int what) {
            if (!areas(a) || k < 0 || !in(what, 0, 3)) {
                return no(-202);
            }
            int left = k;
            for (int[] band : bands(area[a])) {
                int has = band.length / 2 - 1;
                if (left < has) {
                    return what == 2 ? band[0] : what == 3 ? band[1] : band[2 + 2 * left + what];
                }
                left -= has;
            }
            return -201;
        }

        int two(int a, int b, int what) {
            if (!areas(a, b) || !in(what, 0, 3)) {
                return no(-202);
            }
            boolean same = true;
            boolean inside = true;
            boolean meet = false;
            boolean beside = false;
            for (int y = -60; y < 60; y++) {
                for (int x = -60; x < 60; x++) {
                    boolean p = at(area[a], x, y);
                    boolean q = at(area[b], x, y);
                    same &= p == q;
                    inside &= !p || q;
                    meet |= p && q;
                    beside |= p && (q || at(area[b], x + 1, y) || at(area[b], x - 1, y)
                        || at(area[b], x, y + 1) || at(area[b], x, y - 1));
                }
            }
            return (what == 0 ? same : what == 1 ? inside : what == 2 ? meet : beside) ? 1 : 0;
        }

        int common(int a, int b) {
            return !areas(a, b) ? no(-202) : cells(mixed(1, area[a], area[b]));
        }

        int across(int a, int line, int v) {
            if (!areas(a) || !in(line, 0, 1) || !in(v, -60, 59)) {
                return no(-202);
            }
            int sum = 0;
            for (int u = -60; u < 60; u++) {
                sum += (line == 0 ? at(area[a], u, v) : at(area[a], v, u)) ? 1 : 0;
            }
            return sum;
        }

        int apart(int a, int b) {
            if (!areas(a, b)) {
                return no(-202);
            }
            for (int n = 0; n <= 9; n++) {
                if (cells(mixed(1, grown(area[a], n), area[b])) > 0) {
                    return n;
                }
            }
            return -201;
        }

        int type(int c) {
            if (!in(c, 0, 127)) {
                return no(-202);
            }
            if (text.length() == 120) {
                return no(-204);
            }
            text.append((char) c);
            return text.length();
        }

        int clear() {
            int had = text.length();
            text.setLength(0);
            return had;
        }

        private static int number(String token, int least, int greatest) {
            if (!token.matches("-?[0-9]{1,2}")) {
                return Integer.MIN_VALUE;
            }
            int v = Integer.parseInt(token);
            return in(v, least, greatest) ? v : Integer.MIN_VALUE;
        }

        /** For each word: least and greatest of its numbers. */
        private static int[] bounds(String word) {
            switch (word) {
                case "be": case "or": case "and": case "but": case "xor": return new int[] {0, 4};
                case "box": return new int[] {-60, 59, -60, 59, 1, 99, 1, 99};
                case "none": case "flip": case "turn": return new int[0];
                case "move": return new int[] {-99, 99, -99, 99};
                case "grow": case "shrink": return new int[] {1, 9};
                default: return null;
            }
        }

        int does() {
            List<String> tokens = new ArrayList<>();
            List<Integer> places = new ArrayList<>();
            Matcher m = Pattern.compile("[a-z]+|-?[0-9]+|[^ ]", Pattern.DOTALL).matcher(text);
            while (m.find()) {
                tokens.add(m.group());
                places.add(m.start());
            }
            List<List<String>> sentences = new ArrayList<>();
            int k = 0;
            do {
                List<String> sentence = new ArrayList<>();
                int[] bounds = null;
                int due = 3;
                for (int i = 0; i < due; i++, k++) {
                    if (k == tokens.size()) {
                        return -300 - text.length();
                    }
                    String token = tokens.get(k);
                    boolean good;
                    if (i == 0) {
                        good = number(token, 0, 4) >= 0;
                    } else if (i == 1) {
                        bounds = bounds(token);
                        good = bounds != null;
                        due = good ? 3 + bounds.length / 2 : due;
                    } else if (i == due - 1) {
                        good = token.equals(";");
                    } else {
                        good = number(token, bounds[2 * i - 4], bounds[2 * i - 3]) > Integer.MIN_VALUE;
                    }
                    if (!good) {
                        return -300 - places.get(k);
                    }
                    sentence.add(token);
                }
                sentences.add(sentence);
            } while (k < tokens.size());
            return done(sentences);
        }

        private int done(List<List<String>> sentences) {
            boolean[][][] before = area.clone();
            for (List<String> s : sentences) {
                int a = Integer.parseInt(s.get(0));
                int[] n = new int[4];
                for (int i = 2; i < s.size() - 1; i++) {
                    n[i - 2] = Integer.parseInt(s.get(i));
                }
                boolean[][] c;
                switch (s.get(1)) {
                    case "be": c = area[n[0]]; break;
                    case "box": c = boxed(n[0], n[1], n[2], n[3]); break;
                    case "none": c = new boolean[120][120]; break;
                    case "or": c = mixed(0, area[a], area[n[0]]); break;
                    case "and": c = mixed(1, area[a], area[n[0]]); break;
                    case "but": c = mixed(2, area[a], area[n[0]]); break;
                    case "xor": c = mixed(3, area[a], area[n[0]]); break;
                    case "move": c = moved(area[a], n[0], n[1]); break;
                    case "grow": c = grown(area[a], n[0]); break;
                    case "shrink": c = grown(area[a], -n[0]); break;
                    case "flip": c = flipped(area[a], 0); break;
                    default: c = flipped(area[a], 2); break;
                }
                if (c == null || tooMuch(c)) {
                    area = before;
                    return no(c == null ? -203 : -204);
                }
                area[a] = c;
            }
            return sentences.size();
        }

        int writing(int a, int k) {
            if (!areas(a) || k < -1) {
                return no(-202);
            }
            String s = written(area[a]);
            return k == -1 ? s.length() : k < s.length() ? s.charAt(k) : -201;
        }

        int mark(int a) {
            return !areas(a) ? no(-202) : written(area[a]).hashCode();
        }

        int told(int what) {
            switch (what) {
                case 0: case 1: case 2: return refused[what];
                case 3: return text.length();
                case 4: return corners.size();
                case 5:
                    int sum = 0;
                    for (boolean[][] c : area) {
                        sum += cells(c);
                    }
                    return sum;
                default: return no(-202);
            }
        }

        long digest() {
            long h = 1979;
            for (int what = 0; what < 6; what++) {
                h = 31 * h + told(what);
            }
            for (boolean[][] c : area) {
                List<int[]> bands = bands(c);
                h = 31 * h + cells(c);
                h = 31 * h + bands.size();
                h = 31 * h + spans(bands);
                h = 31 * h + written(c).hashCode();
            }
            return h;
        }
    }

    /** Numbers that go on the same way in every run of the test. */
    private static final class Dice {
        private long state;

        Dice(long seed) {
            state = seed * 2862933555777941757L + 3037000493L;
        }

        int upTo(int n) {
            state = state * 6364136223846793005L + 1442695040888963407L;
            return (int) ((state >>> 33) % n);
        }

        int from(int least, int greatest) {
            return least + upTo(greatest - least + 1);
        }

        /** Mostly as told, now and then just beyond, or far beyond. */
        int near(int least, int greatest) {
            int r = upTo(60);
            if (r == 0) {
                return upTo(2) == 0 ? least - 1 : greatest + 1;
            }
            if (r == 1) {
                return upTo(2) == 0 ? Integer.MIN_VALUE : Integer.MAX_VALUE;
            }
            return r < 6 ? (upTo(2) == 0 ? least : greatest) : from(least, greatest);
        }
    }

    private static final class Run {
        final int number;
        final Dice dice;
        final BandAreas x = new BandAreas();
        final Model m = new Model();
        int calls = 0;

        Run(int number) {
            this.number = number;
            dice = new Dice(number);
        }

        void same(String call, long got, long want) {
            calls++;
            if (got != want) {
                wrong++;
                System.out.println("run " + number + ", call " + calls + ": " + call + " answered " + got + ", due is " + want);
            }
        }

        void same(String call, long got, long want, int... n) {
            StringBuilder s = new StringBuilder(call).append('(');
            for (int k = 0; k < n.length; k++) {
                s.append(k > 0 ? ", " : "").append(n[k]);
            }
            same(s.append(')').toString(), got, want);
        }

        /** Every other run keeps area 0 for what is intricate, so that FULL comes near. */
        boolean intricate() {
            return number % 2 == 0;
        }

        int area() {
            return intricate() && dice.upTo(2) == 0 ? 0 : dice.near(0, 4);
        }

        int target() {
            return intricate() && dice.upTo(12) > 0 ? dice.from(1, 4) : dice.near(0, 4);
        }

        void go() {
            while (calls < 440 && wrong < 20) {
                int r = dice.upTo(100);
                if (m.told(5) < 30 || intricate() && dice.upTo(8) == 0) {
                    scatter();
                } else if (r < 12) {
                    change(dice.upTo(3));
                } else if (r < 40) {
                    change(3 + dice.upTo(7));
                } else if (r < 46) {
                    corners();
                } else if (r < 82) {
                    ask(dice.upTo(10));
                } else if (r < 90 && calls < 300) {
                    tell();
                } else {
                    change(9);
                }
                same("digest()", x.digest(), m.digest());
            }
        }

        void scatter() {
            int a = dice.from(1, 4);
            int seed = dice.from(0, 999999);
            int dx = dice.from(-30, 30);
            int dy = dice.from(-35, 33);
            same("draw", x.draw(seed, 9, a), m.draw(seed, 9, a), seed, 9, a);
            same("move", x.move(a, dx, dy, a), m.move(a, dx, dy, a), a, dx, dy, a);
            same("mix", x.mix(3, 0, a, 0), m.mix(3, 0, a, 0), 3, 0, a, 0);
        }

        void change(int kind) {
            int a = area();
            int to = target();
            int p = dice.near(-60, 59);
            int q = dice.near(-60, 59);
            switch (kind) {
                case 0: {
                    int w = dice.upTo(4) == 0 ? dice.near(1, 99) : dice.near(1, 20);
                    int h = dice.upTo(4) == 0 ? dice.near(1, 99) : dice.near(1, 20);
                    same("box", x.box(p, q, w, h, to), m.box(p, q, w, h, to), p, q, w, h, to);
                    break;
                }
                case 1: {
                    int seed = dice.near(0, 999999);
                    int n = dice.near(1, 9);
                    same("draw", x.draw(seed, n, to), m.draw(seed, n, to), seed, n, to);
                    break;
                }
                case 2: {
                    same("rest", x.rest(a, to), m.rest(a, to), a, to);
                    break;
                }
                case 3: {
                    int far = dice.upTo(5) == 0 ? 120 : 20;
                    int dx = dice.near(-far, far);
                    int dy = dice.near(-far, far);
                    same("move", x.move(a, dx, dy, to), m.move(a, dx, dy, to), a, dx, dy, to);
                    break;
                }
                case 4: {
                    int n = dice.upTo(2) == 0 ? dice.near(-9, 9) : dice.from(-1, 1);
                    same("grow", x.grow(a, n, to), m.grow(a, n, to), a, n, to);
                    break;
                }
                case 5: {
                    int way = dice.near(0, 2);
                    same("flip", x.flip(a, way, to), m.flip(a, way, to), a, way, to);
                    break;
                }
                case 6: {
                    int k = Math.max(0, m.of(0, 2) - 1);
                    int u = a == 0 && dice.upTo(4) > 0 ? m.span(0, k / 2, 0) : p;
                    int v = a == 0 && dice.upTo(4) > 0 ? m.span(0, k / 2, 2) : q;
                    same("part", x.part(a, u, v, to), m.part(a, u, v, to), a, u, v, to);
                    break;
                }
                default: {
                    int sort = dice.upTo(2) == 0 ? 3 : dice.near(0, 3);
                    int b = area();
                    same("mix", x.mix(sort, a, b, to), m.mix(sort, a, b, to), sort, a, b, to);
                    break;
                }
            }
        }

        void corners() {
            int many = dice.from(1, 11);
            // a ring that is refused as FULL stays for good, so most are kept low
            int top = dice.from(-60, 10);
            boolean high = calls > 250 && dice.upTo(3) == 0;
            for (int k = 0; k < many; k++) {
                int p = dice.near(-60, 60);
                int q = high ? dice.near(-60, 60) : dice.from(top, top + (many < 6 ? 50 : 30));
                same("corner", x.corner(p, q), m.corner(p, q), p, q);
            }
            int to = target();
            same("round", x.round(to), m.round(to), to);
        }

        void ask(int kind) {
            int a = area();
            int b = area();
            int p = dice.near(-60, 59);
            int q = dice.near(-60, 59);
            int what = dice.near(0, 3);
            switch (kind) {
                case 0: same("hit", x.hit(a, p, q), m.hit(a, p, q), a, p, q); break;
                case 1: {
                    int of = dice.near(0, 8);
                    same("of", x.of(a, of), m.of(a, of), a, of);
                    break;
                }
                case 2: {
                    int k = dice.near(0, dice.upTo(3) == 0 ? 300 : 20);
                    same("span", x.span(a, k, what), m.span(a, k, what), a, k, what);
                    break;
                }
                case 3: same("two", x.two(a, b, what), m.two(a, b, what), a, b, what); break;
                case 4: same("common", x.common(a, b), m.common(a, b), a, b); break;
                case 5: {
                    int line = dice.near(0, 1);
                    same("across", x.across(a, line, p), m.across(a, line, p), a, line, p);
                    break;
                }
                case 6: same("apart", x.apart(a, b), m.apart(a, b), a, b); break;
                case 7: {
                    int k = dice.near(-1, dice.upTo(3) == 0 ? 2000 : 60);
                    same("writing", x.writing(a, k), m.writing(a, k), a, k);
                    break;
                }
                case 8: same("mark", x.mark(a), m.mark(a), a); break;
                default: {
                    int told = dice.near(0, 5);
                    same("told", x.told(told), m.told(told), told);
                    break;
                }
            }
        }

        void tell() {
            if (dice.upTo(6) > 0) {
                same("clear()", x.clear(), m.clear());
            }
            StringBuilder s = new StringBuilder();
            int many = dice.from(0, 5);
            for (int k = 0; k < many; k++) {
                sentence(s);
            }
            if (dice.upTo(3) == 0 && s.length() > 0) {
                int at = dice.upTo(s.length());
                String damage = "; -0159abeoxz?A";
                switch (dice.upTo(3)) {
                    case 0: s.deleteCharAt(at); break;
                    case 1: s.insert(at, damage.charAt(dice.upTo(damage.length()))); break;
                    default: s.setLength(at); break;
                }
            }
            for (int k = 0; k < s.length(); k++) {
                same("type", x.type(s.charAt(k)), m.type(s.charAt(k)), s.charAt(k));
            }
            same("does() of " + s, x.does(), m.does());
        }

        private void sentence(StringBuilder s) {
            String[] words = {"be", "box", "none", "or", "and", "but", "xor", "move", "grow", "shrink", "flip", "turn"};
            String word = words[dice.upTo(words.length)];
            blank(s.append(intricate() ? area() & 3 : dice.from(0, 4)), false);
            s.append(word);
            int[] bounds = Model.bounds(word);
            for (int i = 0; i < bounds.length; i += 2) {
                int n = word.equals("move") && dice.upTo(5) > 0 ? dice.from(-15, 15)
                    : i >= 4 && dice.upTo(5) > 0 ? dice.from(1, 30) : dice.from(bounds[i], bounds[i + 1]);
                n += dice.upTo(40) == 0 ? dice.from(-3, 3) : 0;
                blank(s, i > 0 && n >= 0);
                s.append(n);
            }
            blank(s, false);
            s.append(';');
            blank(s, false);
        }

        private void blank(StringBuilder s, boolean needed) {
            int blanks = needed ? dice.from(1, 2) : Math.max(0, dice.upTo(4) - 2);
            for (int k = 0; k < blanks; k++) {
                s.append(' ');
            }
        }
    }

    public static void main(String[] args) {
        int runs = args.length > 0 ? Integer.parseInt(args[0]) : 120;
        for (int number = 1; number <= runs; number++) {
            new Run(number).go();
        }
        System.out.println(wrong == 0 ? runs + " runs are the same cell by cell" : wrong + " answers are not as due");
        if (wrong != 0) {
            System.exit(1);
        }
    }
}
