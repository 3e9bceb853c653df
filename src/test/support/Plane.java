/** A BandAreas that counts its calls: what comes behind the 512th is free, so no test may ask so often. */
final class Plane {
    private static final int MOST_CALLS = 512;

    private final BandAreas areas = new BandAreas();
    private int calls = 0;

    private BandAreas called() {
        calls++;
        if (calls > MOST_CALLS) {
            throw new IllegalStateException("the test makes more than 512 calls on one object");
        }
        return areas;
    }

    int box(int x, int y, int w, int h, int to) {
        return called().box(x, y, w, h, to);
    }

    int mix(int sort, int a, int b, int to) {
        return called().mix(sort, a, b, to);
    }

    int move(int a, int x, int y, int to) {
        return called().move(a, x, y, to);
    }

    int grow(int a, int n, int to) {
        return called().grow(a, n, to);
    }

    int flip(int a, int way, int to) {
        return called().flip(a, way, to);
    }

    int rest(int a, int to) {
        return called().rest(a, to);
    }

    int part(int a, int x, int y, int to) {
        return called().part(a, x, y, to);
    }

    int corner(int x, int y) {
        return called().corner(x, y);
    }

    int round(int to) {
        return called().round(to);
    }

    int draw(int seed, int n, int to) {
        return called().draw(seed, n, to);
    }

    int hit(int a, int x, int y) {
        return called().hit(a, x, y);
    }

    int of(int a, int what) {
        return called().of(a, what);
    }

    int span(int a, int k, int what) {
        return called().span(a, k, what);
    }

    int two(int a, int b, int what) {
        return called().two(a, b, what);
    }

    int common(int a, int b) {
        return called().common(a, b);
    }

    int across(int a, int line, int v) {
        return called().across(a, line, v);
    }

    int apart(int a, int b) {
        return called().apart(a, b);
    }

    int type(int c) {
        return called().type(c);
    }

    int clear() {
        return called().clear();
    }

    int does() {
        return called().does();
    }

    int writing(int a, int k) {
        return called().writing(a, k);
    }

    int mark(int a) {
        return called().mark(a);
    }

    int told(int what) {
        return called().told(what);
    }

    long digest() {
        return called().digest();
    }
}
