/** Promises 12 to 18, what areas are: each case that the document's sentences name, by itself. */
public final class AskingTest extends Cases {
    public static void main(String[] args) throws Exception {
        run(AskingTest.class, 12, 18);
    }

    private void allCells(int a) {
        x.mix(3, a, a, a);
        x.rest(a, a);
    }

    // ---- 12: hit

    void p12_ofItAndBesideIt() {
        stock();
        x.box(-1, -1, 2, 3, 0);
        keeps(1, () -> x.hit(0, -1, -1));
        keeps(1, () -> x.hit(0, 0, 1));
        keeps(0, () -> x.hit(0, -2, 0));
        keeps(0, () -> x.hit(0, 1, 0));
        keeps(0, () -> x.hit(0, 0, -2));
        keeps(0, () -> x.hit(0, 0, 2));
    }

    void p12_ofAnEmptyOne() {
        due(x.hit(0, 0, 0), 0);
        due(x.hit(0, -60, -60), 0);
        due(x.hit(0, 59, 59), 0);
    }

    void p12_atTheEdges() {
        allCells(0);
        due(x.hit(0, -60, 0), 1);
        due(x.hit(0, 59, 0), 1);
        due(x.hit(0, 0, -60), 1);
        due(x.hit(0, 0, 59), 1);
        due(x.hit(0, -60, 59), 1);
        due(x.hit(0, 59, -60), 1);
    }

    void p12_beyondByXIs0() {
        allCells(0);
        keeps(0, () -> x.hit(0, -61, 0));
        keeps(0, () -> x.hit(0, 60, 0));
        keeps(0, () -> x.hit(0, LOW, 0));
        keeps(0, () -> x.hit(0, HIGH, 0));
    }

    void p12_beyondByYIs0() {
        allCells(0);
        keeps(0, () -> x.hit(0, 0, -61));
        keeps(0, () -> x.hit(0, 0, 60));
        keeps(0, () -> x.hit(0, 0, LOW));
        keeps(0, () -> x.hit(0, 0, HIGH));
    }

    void p12_farBeyondDoesNotGoRound() {
        allCells(0);
        for (int far : new int[] {LOW, HIGH, 120, -120, 64, -64, 128, 256, 65536}) {
            due(x.hit(0, far, far), 0);
            due(x.hit(0, far, 0), 0);
            due(x.hit(0, 0, far), 0);
        }
    }

    void p12_aFrom0To4() {
        stock();
        due(x.hit(0, -60, -60), 1);
        due(x.hit(4, 59, 59), 1);
        badBeyond(0, 4, v -> x.hit(v, 0, 0));
    }

    void p12_badBeyondTheEdgesToo() {
        stock();
        refused(BAD, () -> x.hit(5, 60, 0));
        refused(BAD, () -> x.hit(-1, 0, HIGH));
    }

    // ---- 13: of

    /** "-3.-1:-5.-1,0.2;-1.0:-5.2;0.1:2.3;4.5:-5.-4;" */
    private void fourBands() {
        put(0, -5, -3, 4, 2, 0, -3, 2, 2, -5, -1, 7, 1, 2, 0, 1, 1, -5, 4, 1, 1);
    }

    void p13_each() {
        stock();
        x.mix(3, 0, 0, 0);
        fourBands();
        int[] want = {21, 4, 5, 3, 32, -5, 3, -3, 5};
        for (int what = 0; what <= 8; what++) {
            due("of(0, " + what + ")", x.of(0, what), want[what]);
        }
    }

    void p13_ofAnEmptyOne() {
        for (int what = 0; what <= 8; what++) {
            int asked = what;
            keeps(what < 5 ? 0 : NONE, () -> x.of(0, asked));
        }
    }

    void p13_ofAllCells() {
        allCells(0);
        int[] want = {14400, 1, 1, 1, 480, -60, 60, -60, 60};
        for (int what = 0; what <= 8; what++) {
            due("of(0, " + what + ")", x.of(0, what), want[what]);
        }
    }

    void p13_ofTheFirstAndTheLastCell() {
        x.box(-60, -60, 1, 1, 0);
        x.box(59, 59, 1, 1, 1);
        int[] first = {1, 1, 1, 1, 4, -60, -59, -60, -59};
        int[] last = {1, 1, 1, 1, 4, 59, 60, 59, 60};
        for (int what = 0; what <= 8; what++) {
            due("of(0, " + what + ")", x.of(0, what), first[what]);
            due("of(1, " + what + ")", x.of(1, what), last[what]);
        }
    }

    void p13_whatFrom0To8() {
        stock();
        due(x.of(0, 0), 6);
        due(x.of(0, 8), -58);
        badBeyond(0, 8, v -> x.of(0, v));
    }

    void p13_aFrom0To4() {
        stock();
        due(x.of(0, 0), 6);
        due(x.of(4, 0), 1);
        badBeyond(0, 4, v -> x.of(v, 0));
    }

    void p13_askingChangesNothing() {
        stock();
        for (int what = 0; what <= 8; what++) {
            int asked = what;
            keeps(new int[] {6, 1, 1, 1, 10, -60, -57, -60, -58}[what], () -> x.of(0, asked));
        }
    }

    void p13_bandsRowsOfTheSameXAreOne() {
        put(0, 3, 3, 2, 1, 3, 4, 2, 1, 3, 5, 2, 1);
        due(x.of(0, 1), 1);
        dueWriting(0, "3.6:3.5;");
    }

    void p13_bandsRowsOfOtherXAreTwo() {
        put(0, 3, 3, 2, 1, 3, 4, 3, 1);
        due(x.of(0, 1), 2);
        put(1, 3, 3, 2, 1, 2, 4, 3, 1);
        due(x.of(1, 1), 2);
        put(2, 3, 3, 2, 1, 3, 4, 1, 1);
        due(x.of(2, 1), 2);
    }

    void p13_bandsAnEmptyRowBetweenMakesTwo() {
        put(0, 3, 3, 2, 1, 3, 5, 2, 1);
        due(x.of(0, 1), 2);
        dueWriting(0, "3.4:3.5;5.6:3.5;");
    }

    void p13_bandsAtTheFirstAndTheLastRow() {
        put(0, 3, -60, 2, 2, 3, 58, 2, 2);
        due(x.of(0, 1), 2);
        dueWriting(0, "-60.-58:3.5;58.60:3.5;");
    }

    void p13_spansBesideOneAnotherAreOne() {
        put(0, -2, 0, 2, 1, 0, 0, 2, 1);
        due(x.of(0, 2), 1);
        dueWriting(0, "0.1:-2.2;");
    }

    void p13_spansWithAGapOf1AreTwo() {
        put(0, -2, 0, 2, 1, 1, 0, 2, 1, -60, 0, 1, 1, -58, 0, 1, 1, 57, 0, 1, 1, 59, 0, 1, 1);
        due(x.of(0, 2), 6);
        dueWriting(0, "0.1:-60.-59,-58.-57,-2.0,1.3,57.58,59.60;");
    }

    void p13_60BandsAnd300Spans() {
        brimful(0);
        due("CELLS", x.of(0, 0), 300);
        due("BANDS", x.of(0, 1), 60);
        due("SPANS", x.of(0, 2), 300);
        due("PARTS", x.of(0, 3), 300);
        due("round", x.of(0, 4), 1200);
        due("the least x", x.of(0, 5), 0);
        due("the x behind the greatest", x.of(0, 6), 9);
        due("the least y", x.of(0, 7), -60);
        due("the y behind the greatest", x.of(0, 8), 59);
    }

    void p13_theLeastXIsNotOfTheFirstBand() {
        put(0, 3, 3, 2, 1, -9, 4, 1, 1, 20, 5, 4, 1, 0, 6, 1, 1);
        due(x.of(0, 5), -9);
        due(x.of(0, 6), 24);
    }

    void p13_partsOverSides() {
        put(0, 0, 0, 1, 1, 1, 0, 1, 1, 1, 1, 1, 1);
        due(x.of(0, 3), 1);
    }

    void p13_partsNotOverCorners() {
        put(0, 0, 0, 1, 1, 1, 1, 1, 1, 0, 2, 1, 1, -1, 1, 1, 1);
        due(x.of(0, 3), 4);
    }

    void p13_partsJoinedOnlyBelow() {
        put(0, 0, 0, 1, 4, 2, 0, 1, 4, 4, 0, 1, 4);
        due("three", x.of(0, 3), 3);
        put(0, 0, 4, 5, 1);
        due("one", x.of(0, 3), 1);
    }

    void p13_partsJoinedOnlyAbove() {
        put(0, 0, 1, 1, 4, 2, 1, 1, 4, 4, 1, 1, 4, 0, 0, 5, 1);
        due(x.of(0, 3), 1);
    }

    void p13_partsJoinedBothWaysIsOne() {
        put(0, 0, 0, 5, 5);
        x.box(1, 1, 3, 3, 1);
        x.mix(2, 0, 1, 0);
        due("a ring", x.of(0, 3), 1);
        put(0, 2, 2, 1, 1);
        due("and a cell in it", x.of(0, 3), 2);
    }

    void p13_partsNotFromEdgeToEdge() {
        put(0, -60, 0, 1, 1, 59, 0, 1, 1, 0, -60, 1, 1, 0, 59, 1, 1);
        due(x.of(0, 3), 4);
        put(1, 59, 0, 1, 1, -60, 1, 1, 1);
        due(x.of(1, 3), 2);
    }

    void p13_roundAHoleToo() {
        x.box(0, 0, 5, 5, 0);
        x.box(2, 2, 1, 1, 1);
        x.mix(2, 0, 1, 0);
        due(x.of(0, 4), 24);
    }

    void p13_roundCellsOverACorner() {
        put(0, 0, 0, 1, 1, 1, 1, 1, 1);
        due(x.of(0, 4), 8);
    }

    void p13_roundAtTheEdges() {
        put(0, -60, 0, 1, 1, 59, 0, 1, 1, 0, -60, 1, 1, 0, 59, 1, 1);
        due(x.of(0, 4), 16);
    }

    void p13_roundOverTheMiddle() {
        x.box(-1, -1, 2, 2, 0);
        due(x.of(0, 4), 8);
        x.box(-9, -9, 18, 1, 0);
        due(x.of(0, 4), 38);
    }

    // ---- 14: span

    void p14_eachByBands() {
        put(0, -60, -60, 2, 2, 0, -60, 60, 2, -1, 58, 2, 2);
        int[][] want = {{-60, -58, -60, -58}, {0, 60, -60, -58}, {-1, 1, 58, 60}};
        for (int k = 0; k < 3; k++) {
            for (int what = 0; what <= 3; what++) {
                due("span(0, " + k + ", " + what + ")", x.span(0, k, what), want[k][what]);
            }
        }
    }

    void p14_theOneBehindTheLastIsNone() {
        stock();
        for (int what = 0; what <= 3; what++) {
            int asked = what;
            keeps(NONE, () -> x.span(0, 1, asked));
        }
    }

    void p14_ofAnEmptyOneNone() {
        keeps(NONE, () -> x.span(0, 0, 0));
        keeps(NONE, () -> x.span(0, 0, 3));
    }

    void p14_kFrom0On() {
        stock();
        due(x.span(0, 0, 0), -60);
        refused(BAD, () -> x.span(0, -1, 0));
        refused(BAD, () -> x.span(0, LOW, 0));
        keeps(NONE, () -> x.span(0, HIGH, 0));
        keeps(NONE, () -> x.span(0, 1 << 30, 1));
        keeps(NONE, () -> x.span(0, 1 << 16, 2));
    }

    void p14_whatFrom0To3() {
        stock();
        due(x.span(0, 0, 0), -60);
        due(x.span(0, 0, 3), -58);
        badBeyond(0, 3, v -> x.span(0, 0, v));
    }

    void p14_aFrom0To4() {
        stock();
        due(x.span(0, 0, 1), -57);
        due(x.span(4, 0, 1), 60);
        badBeyond(0, 4, v -> x.span(v, 0, 0));
    }

    void p14_badComesBeforeNone() {
        stock();
        refused(BAD, () -> x.span(0, 9, 4));
        refused(BAD, () -> x.span(0, 9, -1));
        refused(BAD, () -> x.span(5, 9, 0));
    }

    void p14_theLastOf300() {
        brimful(0);
        int[] want = {8, 9, 58, 59};
        for (int what = 0; what <= 3; what++) {
            due("span(0, 299, " + what + ")", x.span(0, 299, what), want[what]);
            due("span(0, 300, " + what + ")", x.span(0, 300, what), NONE);
        }
        due("the last of the first band", x.span(0, 4, 0), 8);
        due("its y", x.span(0, 4, 2), -60);
        due("the first of the second band", x.span(0, 5, 0), 0);
        due("its y", x.span(0, 5, 2), -58);
    }

    // ---- 15: two

    private void pair(String what, int same, int all, int meet, int beside) {
        due(what + ": same", x.two(0, 1, 0), same);
        due(what + ": all of a is of b", x.two(0, 1, 1), all);
        due(what + ": in common", x.two(0, 1, 2), meet);
        due(what + ": beside", x.two(0, 1, 3), beside);
        due(what + ": same, about", x.two(1, 0, 0), same);
        due(what + ": in common, about", x.two(1, 0, 2), meet);
        due(what + ": beside, about", x.two(1, 0, 3), beside);
    }

    void p15_bothEmpty() {
        pair("both empty", 1, 1, 0, 0);
    }

    void p15_oneEmpty() {
        x.box(-3, -3, 3, 3, 1);
        pair("a empty", 0, 1, 0, 0);
        due("b empty", x.two(1, 0, 1), 0);
    }

    void p15_same() {
        x.box(-3, -3, 3, 3, 0);
        x.box(-3, -3, 3, 3, 1);
        pair("same", 1, 1, 1, 1);
        due("itself, same", x.two(0, 0, 0), 1);
        due("itself, beside", x.two(0, 0, 3), 1);
    }

    void p15_allCells() {
        allCells(0);
        allCells(1);
        pair("all", 1, 1, 1, 1);
    }

    void p15_oneCellLess() {
        allCells(0);
        x.box(59, 59, 1, 1, 2);
        x.rest(2, 1);
        pair("one less", 0, 0, 1, 1);
        due("all of it", x.two(1, 0, 1), 1);
        pair("one less", 0, 0, 1, 1);
        x.box(-60, -60, 1, 1, 2);
        x.rest(2, 1);
        pair("one less", 0, 0, 1, 1);
    }

    void p15_within() {
        x.box(-3, -3, 3, 3, 1);
        x.box(-2, -2, 1, 1, 0);
        pair("within", 0, 1, 1, 1);
        due("not the other way", x.two(1, 0, 1), 0);
    }

    void p15_oneCellInCommon() {
        x.box(-3, -3, 3, 3, 1);
        x.box(-1, -1, 2, 2, 0);
        pair("one cell", 0, 0, 1, 1);
    }

    void p15_besideOverASide() {
        x.box(-3, -3, 3, 3, 1);
        x.box(0, -1, 2, 2, 0);
        pair("to the right", 0, 0, 0, 1);
        x.box(-4, -3, 1, 1, 0);
        pair("to the left", 0, 0, 0, 1);
        x.box(-1, 0, 9, 2, 0);
        pair("below", 0, 0, 0, 1);
        x.box(-9, -4, 7, 1, 0);
        pair("above", 0, 0, 0, 1);
    }

    void p15_notBesideOverACorner() {
        x.box(-3, -3, 3, 3, 1);
        int[][] corners = {{0, 0}, {-4, 0}, {0, -4}, {-4, -4}};
        for (int[] c : corners) {
            x.box(c[0], c[1], 1, 1, 0);
            pair("over a corner", 0, 0, 0, 0);
        }
    }

    void p15_notBesideWithAGapOf1() {
        x.box(-3, -3, 3, 3, 1);
        int[][] gaps = {{1, -2}, {-5, -2}, {-2, 1}, {-2, -5}};
        for (int[] c : gaps) {
            x.box(c[0], c[1], 1, 1, 0);
            pair("a gap", 0, 0, 0, 0);
        }
    }

    void p15_everyCellInAndRoundABoxOf3By3() {
        for (int left : new int[] {-10, -2, -1, 0, 10}) {
            x = new Plane();
            x.box(left, left, 3, 3, 0);
            for (int k = 0; k < 25; k++) {
                int dx = k % 5 - 1;
                int dy = k / 5 - 1;
                boolean byX = dx >= 0 && dx < 3;
                boolean byY = dy >= 0 && dy < 3;
                x.box(left + dx, left + dy, 1, 1, 1);
                pair("a box from " + left + " and a cell by " + dx + ", " + dy, 0, 0, byX && byY ? 1 : 0, byX || byY ? 1 : 0);
            }
        }
    }

    void p15_notBesideFromEdgeToEdge() {
        x.box(-60, 0, 1, 1, 0);
        x.box(59, 0, 1, 1, 1);
        pair("by x", 0, 0, 0, 0);
        x.box(0, -60, 1, 1, 0);
        x.box(0, 59, 1, 1, 1);
        pair("by y", 0, 0, 0, 0);
        x.box(59, -60, 1, 1, 0);
        x.box(-60, -59, 1, 1, 1);
        pair("from row to row", 0, 0, 0, 0);
    }

    void p15_whatFrom0To3() {
        stock();
        due(x.two(0, 0, 0), 1);
        due(x.two(0, 0, 3), 1);
        badBeyond(0, 3, v -> x.two(0, 0, v));
    }

    void p15_aFrom0To4() {
        stock();
        due(x.two(0, 1, 0), 0);
        due(x.two(4, 4, 0), 1);
        badBeyond(0, 4, v -> x.two(v, 1, 0));
    }

    void p15_bFrom0To4() {
        stock();
        due(x.two(0, 0, 0), 1);
        due(x.two(1, 4, 0), 0);
        badBeyond(0, 4, v -> x.two(1, v, 0));
    }

    void p15_askingChangesNothing() {
        stock();
        for (int what = 0; what <= 3; what++) {
            int asked = what;
            keeps(0, () -> x.two(0, 1, asked));
        }
    }

    /** A cell and those round it, up to 2 away, at the edges of the plane and in its middle. */
    void p15_p16_p18_neighboursEverywhere() {
        int[] at = {-60, -59, -30, -1, 0, 30, 58, 59};
        for (int left : at) {
            for (int top : at) {
                x = new Plane();
                x.box(left, top, 1, 1, 0);
                for (int k = 0; k < 25; k++) {
                    neighbour(left, top, k % 5 - 2, k / 5 - 2);
                }
            }
        }
    }

    private void neighbour(int left, int top, int dx, int dy) {
        if (x.box(left + dx, top + dy, 1, 1, 1) < 0) {
            return;
        }
        String what = "cell " + left + ", " + top + " and one by " + dx + ", " + dy;
        int sides = Math.abs(dx) + Math.abs(dy);
        int same = sides == 0 ? 1 : 0;
        pair(what, same, same, same, sides <= 1 ? 1 : 0);
        due(what, x.common(0, 1), same);
        due(what, x.apart(0, 1), Math.max(Math.abs(dx), Math.abs(dy)));
        due(what, x.hit(0, left + dx, top + dy), same);
        x.mix(0, 0, 1, 2);
        due(what + ": PARTS", x.of(2, 3), sides <= 1 ? 1 : 2);
        due(what + ": round", x.of(2, 4), sides == 0 ? 4 : sides == 1 ? 6 : 8);
        due(what, x.part(2, left, top, 2), sides == 1 ? 2 : 1);
    }

    // ---- 16: common

    void p16_howMany() {
        stock();
        x.box(-5, -5, 10, 10, 0);
        x.box(0, -60, 9, 60, 1);
        keeps(25, () -> x.common(0, 1));
        keeps(25, () -> x.common(1, 0));
    }

    void p16_ofAnEmptyOne() {
        x.box(-5, -5, 10, 10, 0);
        due(x.common(0, 1), 0);
        due(x.common(1, 0), 0);
        due(x.common(1, 2), 0);
    }

    void p16_withItself() {
        x.box(-5, -5, 10, 10, 0);
        due(x.common(0, 0), 100);
    }

    void p16_allCells() {
        allCells(0);
        allCells(1);
        due(x.common(0, 1), 14400);
    }

    void p16_aFrom0To4() {
        stock();
        due(x.common(0, 0), 6);
        due(x.common(4, 1), 0);
        badBeyond(0, 4, v -> x.common(v, 1));
    }

    void p16_bFrom0To4() {
        stock();
        due(x.common(1, 0), 0);
        due(x.common(4, 4), 1);
        badBeyond(0, 4, v -> x.common(1, v));
    }

    void p16_moreThan60BandsCanBeTold() {
        toBeCut(16);
        due("AND is FULL", x.mix(1, 0, 1, 2), FULL);
        keeps(128, () -> x.common(0, 1));
    }

    // ---- 17: across

    void p17_rowsAndColumns() {
        put(0, -60, 59, 30, 1, 58, 10, 2, 50);
        due("row 59", x.across(0, 0, 59), 32);
        due("row 10", x.across(0, 0, 10), 2);
        due("row 9", x.across(0, 0, 9), 0);
        due("column 59", x.across(0, 1, 59), 50);
        due("column -60", x.across(0, 1, -60), 1);
        due("column 57", x.across(0, 1, 57), 0);
    }

    void p17_rowsFromMinus60To59() {
        stock();
        due(x.across(0, 0, -60), 3);
        due(x.across(4, 0, 59), 1);
        badBeyond(-60, 59, v -> x.across(0, 0, v));
    }

    void p17_columnsFromMinus60To59() {
        stock();
        due(x.across(0, 1, -60), 2);
        due(x.across(4, 1, 59), 1);
        badBeyond(-60, 59, v -> x.across(0, 1, v));
    }

    void p17_lineFrom0To1() {
        stock();
        due(x.across(0, 0, -59), 3);
        due(x.across(0, 1, -59), 2);
        badBeyond(0, 1, v -> x.across(0, v, 0));
    }

    void p17_aFrom0To4() {
        stock();
        due(x.across(0, 0, -60), 3);
        due(x.across(4, 1, 59), 1);
        badBeyond(0, 4, v -> x.across(v, 0, 0));
    }

    void p17_ofAnEmptyOne() {
        due(x.across(0, 0, 0), 0);
        due(x.across(0, 1, 0), 0);
    }

    void p17_allCells() {
        allCells(0);
        for (int v : new int[] {-60, -1, 0, 59}) {
            due("row " + v, x.across(0, 0, v), 120);
            due("column " + v, x.across(0, 1, v), 120);
        }
    }

    void p17_askingChangesNothing() {
        stock();
        keeps(3, () -> x.across(0, 0, -60));
        keeps(2, () -> x.across(0, 1, -60));
    }

    // ---- 18: apart

    private void far(int n, int dx, int dy) {
        x.box(0, 0, 2, 2, 0);
        x.box(dx > 0 ? dx + 1 : dx, dy > 0 ? dy + 1 : dy, 1, 1, 1);
        due("by " + dx + ", " + dy, x.apart(0, 1), n);
        due("about, by " + dx + ", " + dy, x.apart(1, 0), n);
    }

    void p18_0IfTheyHaveACellInCommon() {
        x.box(-3, -3, 3, 3, 0);
        x.box(-1, -1, 3, 3, 1);
        due(x.apart(0, 1), 0);
        due("itself", x.apart(0, 0), 0);
    }

    void p18_1To9() {
        for (int n = 1; n <= 9; n++) {
            far(n, n, 0);
            far(n, -n, 0);
            far(n, 0, n);
            far(n, 0, -n);
        }
    }

    void p18_9IsTold() {
        far(9, 9, 9);
        far(9, -9, 9);
        far(9, 9, -9);
        far(9, -9, -9);
    }

    void p18_10IsNone() {
        far(NONE, 10, 0);
        far(NONE, -10, 0);
        far(NONE, 0, 10);
        far(NONE, 0, -10);
    }

    void p18_byXAndByYTheGreaterOne() {
        far(5, 5, 3);
        far(5, 3, 5);
        far(7, -7, 6);
        far(NONE, 10, 1);
        far(NONE, -1, 10);
    }

    void p18_ofAnEmptyOneNone() {
        stock();
        x.mix(3, 4, 4, 4);
        x.mix(3, 3, 3, 3);
        keeps(NONE, () -> x.apart(4, 0));
        keeps(NONE, () -> x.apart(0, 4));
        keeps(NONE, () -> x.apart(3, 4));
        keeps(NONE, () -> x.apart(4, 4));
    }

    void p18_theNearestCellsCount() {
        put(0, -40, 0, 3, 3, 10, 0, 2, 2);
        put(1, -20, 20, 3, 3, 15, 0, 2, 2);
        due(x.apart(0, 1), 4);
    }

    void p18_notFromEdgeToEdge() {
        x.box(-60, 0, 1, 1, 0);
        x.box(59, 0, 1, 1, 1);
        due("by x", x.apart(0, 1), NONE);
        x.box(0, -60, 1, 1, 0);
        x.box(0, 59, 1, 1, 1);
        due("by y", x.apart(0, 1), NONE);
        x.box(59, 0, 1, 1, 0);
        x.box(-60, 1, 1, 1, 1);
        due("from row to row", x.apart(0, 1), NONE);
    }

    void p18_alongTheEdges() {
        x.box(-60, -60, 1, 1, 0);
        x.box(-51, -60, 1, 1, 1);
        due(x.apart(0, 1), 9);
        x.box(59, 59, 1, 1, 0);
        x.box(59, 50, 1, 1, 1);
        due(x.apart(0, 1), 9);
    }

    void p18_notFullThoughGrownItWouldBe() {
        stairs(0, 31);
        due("GROWN by 2", x.grow(0, 2, 2), FULL);
        x.box(38, 33, 1, 1, 1);
        keeps(5, () -> x.apart(0, 1));
        x.box(43, 33, 1, 1, 1);
        keeps(NONE, () -> x.apart(0, 1));
    }

    void p18_aFrom0To4() {
        stock();
        due(x.apart(0, 0), 0);
        due(x.apart(4, 1), NONE);
        badBeyond(0, 4, v -> x.apart(v, 1));
    }

    void p18_bFrom0To4() {
        stock();
        due(x.apart(1, 0), NONE);
        due(x.apart(4, 4), 0);
        badBeyond(0, 4, v -> x.apart(1, v));
    }

    void p18_askingChangesNothing() {
        stock();
        keeps(0, () -> x.apart(0, 0));
        keeps(NONE, () -> x.apart(0, 1));
        x.box(0, 5, 1, 1, 0);
        keeps(5, () -> x.apart(0, 1));
    }
}
