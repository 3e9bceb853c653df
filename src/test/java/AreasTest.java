/** Promises 1 to 11, what makes areas: each case that the document's sentences name, by itself. */
public final class AreasTest extends Cases {
    public static void main(String[] args) throws Exception {
        run(AreasTest.class, 1, 11);
    }

    // ---- 1: a new object

    void p01_constants() {
        due("NONE", BandAreas.NONE, -201);
        due("BAD", BandAreas.BAD, -202);
        due("NO", BandAreas.NO, -203);
        due("FULL", BandAreas.FULL, -204);
    }

    void p01_allAreasAreEmpty() {
        for (int a = 0; a < 5; a++) {
            due(x.of(a, 0), 0);
            dueWriting(a, "");
        }
        due("cells of all", x.told(5), 0);
    }

    void p01_areasAre0To4() {
        due(x.of(0, 0), 0);
        due(x.of(4, 0), 0);
        badBeyond(0, 4, a -> x.of(a, 0));
    }

    void p01_nothingWasRefused() {
        for (int what = 0; what <= 2; what++) {
            due(x.told(what), 0);
        }
    }

    void p01_theTextIsEmpty() {
        due(x.told(3), 0);
        due(x.does(), -300);
        due(x.clear(), 0);
    }

    void p01_thereAreNoCorners() {
        due(x.told(4), 0);
        due(x.round(0), NO);
    }

    void p01_anotherObjectHasAreasOfItsOwn() {
        Plane other = new Plane();
        stock();
        x.round(5);
        for (int what = 0; what <= 5; what++) {
            due("told(" + what + ") of the other", other.told(what), 0);
        }
        other.rest(0, 0);
        dueWriting(0, "-60.-58:-60.-57;");
    }

    void p01_the512thCallIsAnsweredAsTheOthers() {
        for (int call = 1; call < 512; call++) {
            x.round(5);
        }
        due("the 512th", x.told(0), 511);
    }

    // ---- 2: box

    void p02_itsCells() {
        due(x.box(-2, 3, 4, 5, 0), 20);
        dueWriting(0, "3.8:-2.2;");
    }

    void p02_whatWasThereGoes() {
        x.box(-2, 3, 4, 5, 0);
        due(x.box(7, 7, 2, 1, 0), 2);
        dueWriting(0, "7.8:7.9;");
    }

    void p02_xFromMinus60To59() {
        stock();
        due(x.box(-60, 0, 1, 1, 0), 1);
        dueWriting(0, "0.1:-60.-59;");
        due(x.box(59, 0, 1, 1, 0), 1);
        dueWriting(0, "0.1:59.60;");
        badBeyond(-60, 59, v -> x.box(v, 0, 1, 1, 0));
    }

    void p02_yFromMinus60To59() {
        stock();
        due(x.box(0, -60, 1, 1, 0), 1);
        dueWriting(0, "-60.-59:0.1;");
        due(x.box(0, 59, 1, 1, 0), 1);
        dueWriting(0, "59.60:0.1;");
        badBeyond(-60, 59, v -> x.box(0, v, 1, 1, 0));
    }

    void p02_wFrom1To99() {
        stock();
        due(x.box(-50, 0, 1, 1, 0), 1);
        dueWriting(0, "0.1:-50.-49;");
        due(x.box(-50, 0, 99, 1, 0), 99);
        dueWriting(0, "0.1:-50.49;");
        badBeyond(1, 99, v -> x.box(-60, 0, v, 1, 0));
    }

    void p02_hFrom1To99() {
        stock();
        due(x.box(0, -50, 1, 1, 0), 1);
        dueWriting(0, "-50.-49:0.1;");
        due(x.box(0, -50, 1, 99, 0), 99);
        dueWriting(0, "-50.49:0.1;");
        badBeyond(1, 99, v -> x.box(0, -60, 1, v, 0));
    }

    void p02_toFrom0To4() {
        stock();
        due(x.box(7, 7, 1, 1, 0), 1);
        dueWriting(0, "7.8:7.8;");
        due(x.box(7, 7, 1, 1, 4), 1);
        dueWriting(4, "7.8:7.8;");
        badBeyond(0, 4, v -> x.box(0, 0, 1, 1, v));
    }

    void p02_toTheRightEdgeAndNoFurther() {
        stock();
        due(x.box(50, 0, 10, 1, 0), 10);
        dueWriting(0, "0.1:50.60;");
        refused(NO, () -> x.box(50, 0, 11, 1, 0));
        refused(NO, () -> x.box(59, 0, 2, 1, 0));
        refused(NO, () -> x.box(59, 0, 99, 1, 0));
    }

    void p02_toTheLowerEdgeAndNoFurther() {
        stock();
        due(x.box(0, 50, 1, 10, 0), 10);
        dueWriting(0, "50.60:0.1;");
        refused(NO, () -> x.box(0, 50, 1, 11, 0));
        refused(NO, () -> x.box(0, 59, 1, 2, 0));
        refused(NO, () -> x.box(0, 59, 1, 99, 0));
    }

    void p02_beyondBothEdgesIsOneNo() {
        stock();
        refused(NO, () -> x.box(59, 59, 2, 2, 0));
    }

    void p02_theGreatestInEachCorner() {
        due(x.box(-60, -60, 99, 99, 0), 9801);
        dueWriting(0, "-60.39:-60.39;");
        due(x.box(-39, -39, 99, 99, 1), 9801);
        dueWriting(1, "-39.60:-39.60;");
        refused(NO, () -> x.box(-38, -39, 99, 99, 1));
        refused(NO, () -> x.box(-39, -38, 99, 99, 1));
    }

    void p02_badComesBeforeNo() {
        stock();
        refused(BAD, () -> x.box(59, 0, 2, 1, 5));
        refused(BAD, () -> x.box(60, 0, 2, 1, 0));
        refused(BAD, () -> x.box(59, 60, 2, 1, 0));
        refused(BAD, () -> x.box(59, 0, 2, 0, 0));
        refused(BAD, () -> x.box(0, 59, 100, 2, 0));
    }

    // ---- 3: mix

    private void mixes(int sort, int cells, String writing) {
        x.box(-3, 0, 5, 3, 0);
        x.box(0, 1, 4, 4, 1);
        due(x.mix(sort, 0, 1, 2), cells);
        dueWriting(2, writing);
        dueWriting(0, "0.3:-3.2;");
        dueWriting(1, "1.5:0.4;");
    }

    void p03_sort0IsOr() {
        mixes(0, 27, "0.1:-3.2;1.3:-3.4;3.5:0.4;");
    }

    void p03_sort1IsAnd() {
        mixes(1, 4, "1.3:0.2;");
    }

    void p03_sort2IsBut() {
        mixes(2, 11, "0.1:-3.2;1.3:-3.0;");
        due("the other way", x.mix(2, 1, 0, 2), 12);
        dueWriting(2, "1.3:2.4;3.5:0.4;");
    }

    void p03_sort3IsXor() {
        mixes(3, 23, "0.1:-3.2;1.3:-3.0,2.4;3.5:0.4;");
    }

    void p03_sortFrom0To3() {
        stock();
        due(x.mix(0, 0, 1, 2), 10);
        due(x.mix(3, 0, 0, 2), 0);
        badBeyond(0, 3, v -> x.mix(v, 0, 1, 2));
    }

    void p03_aFrom0To4() {
        stock();
        due(x.mix(0, 0, 1, 2), 10);
        due(x.mix(0, 4, 1, 2), 5);
        badBeyond(0, 4, v -> x.mix(0, v, 1, 2));
    }

    void p03_bFrom0To4() {
        stock();
        due(x.mix(0, 1, 0, 2), 10);
        due(x.mix(0, 1, 4, 2), 5);
        badBeyond(0, 4, v -> x.mix(0, 1, v, 2));
    }

    void p03_toFrom0To4() {
        stock();
        due(x.mix(0, 1, 2, 0), 7);
        dueWriting(0, "-1.0:-1.1;0.1:-1.1,57.60;");
        due(x.mix(0, 1, 2, 4), 7);
        dueWriting(4, "-1.0:-1.1;0.1:-1.1,57.60;");
        badBeyond(0, 4, v -> x.mix(0, 1, 2, v));
    }

    void p03_ofAnEmptyOne() {
        x.box(1, 1, 2, 2, 0);
        int[] withB = {4, 0, 4, 4};
        int[] withA = {4, 0, 0, 4};
        for (int sort = 0; sort <= 3; sort++) {
            due("b empty, sort " + sort, x.mix(sort, 0, 1, 2), withB[sort]);
            due("a empty, sort " + sort, x.mix(sort, 1, 0, 2), withA[sort]);
            due("both empty, sort " + sort, x.mix(sort, 1, 3, 2), 0);
            dueWriting(2, "");
        }
    }

    void p03_ofAllCells() {
        x.rest(1, 0);
        x.rest(1, 1);
        int[] want = {14400, 14400, 0, 0};
        for (int sort = 0; sort <= 3; sort++) {
            due("sort " + sort, x.mix(sort, 0, 1, 2), want[sort]);
        }
    }

    void p03_anAreaWithItself() {
        int[] want = {6, 6, 0, 0};
        for (int sort = 0; sort <= 3; sort++) {
            x.box(-60, -60, 3, 2, 0);
            due("sort " + sort, x.mix(sort, 0, 0, 0), want[sort]);
            due("its cells", x.of(0, 0), want[sort]);
        }
    }

    void p03_intoAAndIntoB() {
        x.box(-3, 0, 5, 3, 0);
        x.box(0, 1, 4, 4, 1);
        due(x.mix(2, 0, 1, 0), 11);
        dueWriting(0, "0.1:-3.2;1.3:-3.0;");
        due(x.mix(0, 0, 1, 1), 27);
        dueWriting(1, "0.1:-3.2;1.3:-3.4;3.5:0.4;");
    }

    void p03_orOf60BandsIsKept() {
        sixtyBands(0);
        x.move(0, 1, 0, 1);
        due(x.mix(0, 0, 1, 2), 120);
        due("bands", x.of(2, 1), 60);
    }

    void p03_orOf61BandsIsFull() {
        sixtyBands(0);
        x.box(5, -59, 1, 1, 1);
        x.box(7, 7, 1, 1, 2);
        refused(FULL, () -> x.mix(0, 0, 1, 2));
        refused(FULL, () -> x.mix(0, 0, 1, 0));
        refused(FULL, () -> x.mix(0, 0, 1, 1));
    }

    void p03_orOf300SpansIsKept() {
        threeHundredSpans(0);
        x.box(-60, -60, 1, 1, 1);
        due(x.mix(2, 0, 1, 0), 299);
        x.box(0, 59, 1, 1, 1);
        due(x.mix(0, 0, 1, 2), 300);
        due("spans", x.of(2, 2), 300);
        due("bands", x.of(2, 1), 6);
    }

    void p03_orOf301SpansIsFull() {
        threeHundredSpans(0);
        x.box(0, 59, 1, 1, 1);
        x.box(7, 7, 1, 1, 2);
        refused(FULL, () -> x.mix(0, 0, 1, 2));
        refused(FULL, () -> x.mix(0, 1, 0, 0));
    }

    void p03_aCellThatJoinsTwoOf300SpansIsKept() {
        threeHundredSpans(0);
        x.box(-59, -60, 1, 1, 1);
        due(x.mix(0, 0, 1, 0), 301);
        due("spans", x.of(0, 2), 299);
    }

    void p03_aCellThatJoinsThreeOf60BandsIsKept() {
        sixtyBands(0);
        x.box(0, -59, 1, 1, 1);
        due(x.mix(0, 0, 1, 0), 61);
        due("bands", x.of(0, 1), 59);
    }

    void p03_60BandsWith300SpansAreKept() {
        brimful(0);
        due(x.mix(0, 0, 1, 2), 300);
        due("bands", x.of(2, 1), 60);
        due("spans", x.of(2, 2), 300);
    }

    void p03_61BandsWith301SpansAreOneFull() {
        brimful(0);
        x.box(20, -59, 1, 1, 1);
        refused(FULL, () -> x.mix(0, 0, 1, 2));
    }

    void p03_60BandsWith301SpansAreFull() {
        brimful(0);
        x.box(20, -60, 1, 1, 1);
        refused(FULL, () -> x.mix(0, 0, 1, 2));
    }

    void p03_andOf60BandsIsKept() {
        toBeCut(15);
        due(x.mix(1, 0, 1, 2), 120);
        due("bands", x.of(2, 1), 60);
    }

    void p03_andOf61BandsIsFull() {
        toBeCut(15);
        put(0, 0, 50, 1, 1);
        put(1, 0, 50, 1, 1);
        refused(FULL, () -> x.mix(1, 0, 1, 2));
    }

    void p03_butOf60BandsIsKept() {
        toBeHoled(-60);
        due(x.mix(2, 0, 1, 2), 210);
        due("bands", x.of(2, 1), 60);
    }

    void p03_butOf61BandsIsFull() {
        toBeHoled(-59);
        refused(FULL, () -> x.mix(2, 0, 1, 2));
    }

    void p03_xorOf60BandsIsKept() {
        toBeHoled(-60);
        due(x.mix(3, 0, 1, 2), 210);
        due("bands", x.of(2, 1), 60);
    }

    void p03_xorOf61BandsIsFull() {
        toBeHoled(-59);
        refused(FULL, () -> x.mix(3, 0, 1, 2));
    }

    void p03_badComesBeforeFull() {
        sixtyBands(0);
        x.box(5, -59, 1, 1, 1);
        refused(BAD, () -> x.mix(0, 0, 1, 5));
        refused(BAD, () -> x.mix(0, 0, 1, -1));
    }

    // ---- 4: move

    void p04_itsCells() {
        x.box(-3, -1, 5, 2, 0);
        put(0, 1, 1, 2, 1);
        due(x.move(0, 7, -9, 1), 12);
        dueWriting(1, "-10.-8:4.9;-8.-7:8.10;");
        dueWriting(0, "-1.1:-3.2;1.2:1.3;");
    }

    void p04_by0ItIsTheSame() {
        x.box(-3, -1, 5, 2, 0);
        due(x.move(0, 0, 0, 1), 10);
        dueWriting(1, "-1.1:-3.2;");
    }

    void p04_intoItself() {
        x.box(-3, -1, 5, 2, 0);
        due(x.move(0, 1, 1, 0), 10);
        dueWriting(0, "0.2:-2.3;");
    }

    void p04_xFromMinus120To120() {
        stock();
        x.mix(3, 4, 4, 4);
        due(x.move(4, -120, 0, 0), 0);
        due(x.move(4, 120, 0, 0), 0);
        badBeyond(-120, 120, v -> x.move(4, v, 0, 1));
    }

    void p04_yFromMinus120To120() {
        stock();
        x.mix(3, 4, 4, 4);
        due(x.move(4, 0, -120, 0), 0);
        due(x.move(4, 0, 120, 0), 0);
        badBeyond(-120, 120, v -> x.move(4, 0, v, 1));
    }

    void p04_aFrom0To4() {
        stock();
        due(x.move(0, 1, 1, 1), 6);
        due(x.move(4, -1, -1, 1), 1);
        badBeyond(0, 4, v -> x.move(v, 0, 0, 1));
    }

    void p04_toFrom0To4() {
        stock();
        due(x.move(1, 1, 1, 0), 4);
        dueWriting(0, "0.2:0.2;");
        due(x.move(1, 2, 2, 4), 4);
        dueWriting(4, "1.3:1.3;");
        badBeyond(0, 4, v -> x.move(1, 0, 0, v));
    }

    void p04_from60To59AllTheWay() {
        x.box(-60, -60, 1, 1, 0);
        due(x.move(0, 119, 119, 0), 1);
        dueWriting(0, "59.60:59.60;");
        due(x.move(0, -119, -119, 0), 1);
        dueWriting(0, "-60.-59:-60.-59;");
    }

    void p04_by120ACellIsBeyond() {
        x.box(-60, -60, 1, 1, 0);
        x.box(59, 59, 1, 1, 1);
        refused(NO, () -> x.move(0, 120, 0, 2));
        refused(NO, () -> x.move(0, 0, 120, 2));
        refused(NO, () -> x.move(1, -120, 0, 2));
        refused(NO, () -> x.move(1, 0, -120, 2));
    }

    void p04_toTheLeftEdgeAndNoFurther() {
        stock();
        put(1, 3, 3, 1, 1);
        due(x.move(1, -59, 0, 2), 5);
        dueWriting(2, "-1.1:-60.-58;3.4:-56.-55;");
        refused(NO, () -> x.move(1, -60, 0, 2));
    }

    void p04_toTheRightEdgeAndNoFurther() {
        stock();
        put(1, 3, 3, 1, 1);
        due(x.move(1, 56, 0, 2), 5);
        dueWriting(2, "-1.1:55.57;3.4:59.60;");
        refused(NO, () -> x.move(1, 57, 0, 2));
    }

    void p04_toTheUpperEdgeAndNoFurther() {
        stock();
        put(1, 3, 3, 1, 1);
        due(x.move(1, 0, -59, 2), 5);
        dueWriting(2, "-60.-58:-1.1;-56.-55:3.4;");
        refused(NO, () -> x.move(1, 0, -60, 2));
    }

    void p04_toTheLowerEdgeAndNoFurther() {
        stock();
        put(1, 3, 3, 1, 1);
        due(x.move(1, 0, 56, 2), 5);
        dueWriting(2, "55.57:-1.1;59.60:3.4;");
        refused(NO, () -> x.move(1, 0, 57, 2));
    }

    void p04_beyondBothWaysIsOneNo() {
        stock();
        refused(NO, () -> x.move(4, 1, 1, 0));
    }

    void p04_anEmptyOneIsNeverBeyond() {
        stock();
        x.mix(3, 4, 4, 4);
        due(x.move(4, 120, -120, 0), 0);
        dueWriting(0, "");
        due("NO", x.told(1), 0);
    }

    void p04_allCellsStayWhereTheyAre() {
        x.rest(0, 0);
        due(x.move(0, 0, 0, 1), 14400);
        refused(NO, () -> x.move(0, 1, 0, 1));
        refused(NO, () -> x.move(0, -1, 0, 1));
        refused(NO, () -> x.move(0, 0, 1, 1));
        refused(NO, () -> x.move(0, 0, -1, 1));
    }

    void p04_60BandsWith300SpansAreKept() {
        brimful(0);
        due(x.move(0, 51, 1, 1), 300);
        due("bands", x.of(1, 1), 60);
        due("spans", x.of(1, 2), 300);
        refused(NO, () -> x.move(0, 52, 1, 1));
    }

    void p04_badComesBeforeNo() {
        stock();
        refused(BAD, () -> x.move(0, -1, 0, 5));
        refused(BAD, () -> x.move(0, -1, 121, 1));
        refused(BAD, () -> x.move(0, -121, 0, 1));
    }

    // ---- 5: grow

    void p05_grownByXAndByY() {
        x.box(-1, 0, 1, 1, 0);
        due(x.grow(0, 2, 1), 25);
        dueWriting(1, "-2.3:-3.2;");
        dueWriting(0, "0.1:-1.0;");
    }

    void p05_shrunkByXAndByY() {
        x.box(-3, -2, 5, 6, 0);
        due(x.grow(0, -2, 1), 2);
        dueWriting(1, "0.2:-1.0;");
    }

    void p05_nFromMinus9To9() {
        stock();
        x.box(-10, -10, 20, 20, 0);
        due(x.grow(0, 9, 1), 38 * 38);
        dueWriting(1, "-19.19:-19.19;");
        due(x.grow(0, -9, 1), 4);
        dueWriting(1, "-1.1:-1.1;");
        badBeyond(-9, 9, v -> x.grow(0, v, 1));
    }

    void p05_by0ItIsAsItIs() {
        x.box(-3, -2, 5, 6, 0);
        put(0, 7, 7, 1, 1);
        due(x.grow(0, 0, 1), 31);
        dueWriting(1, "-2.4:-3.2;7.8:7.8;");
    }

    void p05_by0SixtyBandsAreKept() {
        brimful(0);
        due(x.grow(0, 0, 1), 300);
        due("same", x.two(0, 1, 0), 1);
    }

    void p05_by1AndByMinus1() {
        x.box(5, 5, 3, 3, 0);
        due(x.grow(0, 1, 1), 25);
        dueWriting(1, "4.9:4.9;");
        due(x.grow(0, -1, 1), 1);
        dueWriting(1, "6.7:6.7;");
    }

    void p05_aFrom0To4() {
        stock();
        due(x.grow(0, 1, 1), 12);
        due(x.grow(4, 1, 1), 4);
        badBeyond(0, 4, v -> x.grow(v, 0, 1));
    }

    void p05_toFrom0To4() {
        stock();
        due(x.grow(1, 1, 0), 16);
        dueWriting(0, "-2.2:-2.2;");
        due(x.grow(1, 1, 4), 16);
        dueWriting(4, "-2.2:-2.2;");
        badBeyond(0, 4, v -> x.grow(1, 0, v));
    }

    void p05_intoItself() {
        x.box(5, 5, 3, 3, 0);
        due(x.grow(0, 1, 0), 25);
        due(x.grow(0, -2, 0), 1);
        dueWriting(0, "6.7:6.7;");
    }

    void p05_anEmptyOneStaysEmpty() {
        for (int n = -9; n <= 9; n++) {
            x.box(0, 0, 1, 1, 1);
            due("by " + n, x.grow(0, n, 1), 0);
            due("its cells", x.of(1, 0), 0);
        }
    }

    void p05_grownNoFurtherThanTheEdges() {
        x.box(-60, -60, 1, 1, 0);
        due(x.grow(0, 9, 1), 100);
        dueWriting(1, "-60.-50:-60.-50;");
        x.box(59, 59, 1, 1, 0);
        due(x.grow(0, 9, 1), 100);
        dueWriting(1, "50.60:50.60;");
        x.rest(2, 0);
        due("all cells", x.grow(0, 9, 1), 14400);
    }

    void p05_shrunkFromWhatIsBeyondTheEdges() {
        x.rest(0, 0);
        due(x.grow(0, -1, 1), 118 * 118);
        dueWriting(1, "-59.59:-59.59;");
        due(x.grow(0, -9, 1), 102 * 102);
        dueWriting(1, "-51.51:-51.51;");
        x.box(-60, -60, 3, 3, 0);
        due(x.grow(0, -1, 1), 1);
        dueWriting(1, "-59.-58:-59.-58;");
    }

    void p05_shrunkToNothing() {
        x.box(0, 0, 18, 99 - 39, 0);
        due("18 wide by 9", x.grow(0, -9, 1), 0);
        x.box(0, 0, 19, 19, 0);
        due("19 wide by 9", x.grow(0, -9, 1), 1);
        dueWriting(1, "9.10:9.10;");
        x.box(0, 0, 1, 1, 0);
        due("a cell by 1", x.grow(0, -1, 1), 0);
    }

    void p05_shrunkRoundAHole() {
        x.box(0, 0, 7, 7, 0);
        x.box(3, 3, 1, 1, 1);
        x.mix(2, 0, 1, 0);
        due(x.grow(0, -1, 1), 16);
        dueWriting(1, "1.2:1.6;2.5:1.2,5.6;5.6:1.6;");
        due("grown, the hole closes", x.grow(0, 1, 1), 81);
    }

    void p05_cellsOverACornerAreAsNear() {
        x.box(0, 0, 3, 3, 0);
        x.box(0, 0, 1, 1, 1);
        x.mix(2, 0, 1, 0);
        due("a corner is missing", x.grow(0, -1, 2), 0);
    }

    void p05_grownTo60BandsIsKept() {
        stairs(0, 30);
        put(0, 0, 50, 1, 1);
        due(x.grow(0, 2, 1) > 0 ? 1 : 0, 1);
        due("bands", x.of(1, 1), 60);
    }

    void p05_grownTo61BandsIsFull() {
        stairs(0, 31);
        due("bands before", x.of(0, 1), 31);
        x.box(7, 7, 1, 1, 1);
        refused(FULL, () -> x.grow(0, 2, 1));
        refused(FULL, () -> x.grow(0, 2, 0));
    }

    /** Rows of 15 cells, left and right by turns, 2 apart: GROWN by 1 they have 45 many - 30 spans. */
    private void rowsByTurns(int many) {
        x.box(-58, -58, 1, 1, 0);
        repeat(0, 15, 4, 0);
        x.move(0, 60, 2, 1);
        for (int k = 1; k < many; k++) {
            x.move(k % 2, 0, 4 * (k / 2), 3);
            x.mix(0, 2, 3, 2);
        }
        x.mix(0, 0, 2, 2);
        x.move(0, 0, 90, 3);
    }

    void p05_grownTo300SpansIsKept() {
        rowsByTurns(7);
        x.mix(0, 2, 3, 2);
        due("spans before", x.of(2, 2), 120);
        due(x.grow(2, 1, 1) > 0 ? 1 : 0, 1);
        due("spans", x.of(1, 2), 300);
    }

    void p05_grownTo301SpansIsFull() {
        rowsByTurns(7);
        x.mix(0, 2, 3, 2);
        put(2, 0, 50, 1, 1);
        due("spans before", x.of(2, 2), 121);
        refused(FULL, () -> x.grow(2, 1, 1));
    }

    void p05_shrunkTo60BandsIsKept() {
        holedStairs(0, 30, -58);
        due(x.grow(0, -1, 1) > 0 ? 1 : 0, 1);
        due("bands", x.of(1, 1), 60);
    }

    void p05_shrunkTo61BandsIsFull() {
        holedStairs(0, 30, -57);
        due("bands before", x.of(0, 1), 32);
        x.box(7, 7, 1, 1, 1);
        refused(FULL, () -> x.grow(0, -1, 1));
        refused(FULL, () -> x.grow(0, -1, 0));
    }

    void p05_badComesBeforeFull() {
        stairs(0, 31);
        refused(BAD, () -> x.grow(0, 2, 5));
        refused(BAD, () -> x.grow(0, 10, 1));
    }

    // ---- 6: flip

    private void flips(int way, String writing) {
        put(0, -60, 5, 3, 1, 4, 6, 2, 3);
        due(x.flip(0, way, 1), 9);
        dueWriting(1, writing);
        due("there and back", x.flip(1, way, 1), 9);
        due("same", x.two(0, 1, 0), 1);
    }

    void p06_way0IsX() {
        flips(0, "5.6:57.60;6.9:-6.-4;");
    }

    void p06_way1IsY() {
        flips(1, "-9.-6:4.6;-6.-5:-60.-57;");
    }

    void p06_way2ChangesXAndYAbout() {
        flips(2, "-60.-57:5.6;4.6:6.9;");
    }

    void p06_wayFrom0To2() {
        stock();
        due(x.flip(0, 0, 1), 6);
        due(x.flip(0, 2, 1), 6);
        badBeyond(0, 2, v -> x.flip(0, v, 1));
    }

    void p06_aFrom0To4() {
        stock();
        due(x.flip(0, 0, 1), 6);
        due(x.flip(4, 0, 1), 1);
        badBeyond(0, 4, v -> x.flip(v, 0, 1));
    }

    void p06_toFrom0To4() {
        stock();
        due(x.flip(2, 0, 0), 3);
        dueWriting(0, "0.1:-60.-57;");
        due(x.flip(2, 1, 4), 3);
        dueWriting(4, "-1.0:57.60;");
        badBeyond(0, 4, v -> x.flip(2, 0, v));
    }

    void p06_fromEdgeToEdge() {
        x.box(-60, 59, 1, 1, 0);
        x.flip(0, 0, 1);
        dueWriting(1, "59.60:59.60;");
        x.flip(0, 1, 1);
        dueWriting(1, "-60.-59:-60.-59;");
        x.flip(0, 2, 1);
        dueWriting(1, "-60.-59:59.60;");
    }

    void p06_minus1Becomes0() {
        x.box(-1, 0, 1, 1, 0);
        x.flip(0, 0, 1);
        dueWriting(1, "0.1:0.1;");
        x.flip(0, 1, 1);
        dueWriting(1, "-1.0:-1.0;");
        x.flip(0, 2, 1);
        dueWriting(1, "-1.0:0.1;");
    }

    void p06_intoItself() {
        x.box(-60, 5, 3, 1, 0);
        for (int way = 0; way <= 2; way++) {
            due(x.flip(0, way, 0), 3);
        }
        dueWriting(0, "57.60:-6.-5;");
    }

    void p06_anEmptyOneAndAllCells() {
        x.rest(0, 1);
        for (int way = 0; way <= 2; way++) {
            due("empty", x.flip(0, way, 2), 0);
            due("all", x.flip(1, way, 2), 14400);
        }
    }

    void p06_way2To60BandsIsKept() {
        x.box(-60, -60, 1, 1, 0);
        repeat(0, 60, 2, 0);
        due(x.flip(0, 2, 1), 60);
        due("bands", x.of(1, 1), 60);
    }

    void p06_way2To61BandsIsFull() {
        x.box(-60, -60, 1, 1, 0);
        repeat(0, 60, 2, 0);
        put(0, -60, -59, 2, 1);
        due("bands before", x.of(0, 1), 2);
        x.box(7, 7, 1, 1, 1);
        refused(FULL, () -> x.flip(0, 2, 1));
        refused(FULL, () -> x.flip(0, 2, 0));
        due("way 0", x.flip(0, 0, 1), 62);
        due("way 1", x.flip(0, 1, 1), 62);
    }

    void p06_way2To300SpansIsKept() {
        bars(0, 24);
        due("spans before", x.of(0, 2), 24);
        due(x.flip(0, 2, 1), 300);
        due("bands", x.of(1, 1), 24);
        due("spans", x.of(1, 2), 300);
    }

    void p06_way2To301SpansIsFull() {
        bars(0, 24);
        put(0, -60, 59, 1, 1);
        refused(FULL, () -> x.flip(0, 2, 1));
    }

    void p06_badComesBeforeFull() {
        bars(0, 25);
        refused(BAD, () -> x.flip(0, 2, 5));
        refused(BAD, () -> x.flip(0, 3, 1));
    }

    // ---- 7: rest

    void p07_whatIsNotOfIt() {
        x.box(-60, -60, 30, 1, 0);
        due(x.rest(0, 1), 14370);
        dueWriting(1, "-60.-59:-30.60;-59.60:-60.60;");
        dueWriting(0, "-60.-59:-60.-30;");
    }

    void p07_ofAnEmptyOneAllCells() {
        due(x.rest(0, 1), 14400);
        dueWriting(1, "-60.60:-60.60;");
    }

    void p07_ofAllCellsNone() {
        x.rest(0, 0);
        due(x.rest(0, 1), 0);
        dueWriting(1, "");
    }

    void p07_ofTheFourCorners() {
        put(0, -60, -60, 1, 1, 59, -60, 1, 1, -60, 59, 1, 1, 59, 59, 1, 1);
        due(x.rest(0, 1), 14396);
        dueWriting(1, "-60.-59:-59.59;-59.59:-60.60;59.60:-59.59;");
    }

    void p07_intoItself() {
        x.box(-60, -60, 30, 1, 0);
        due(x.rest(0, 0), 14370);
        due(x.rest(0, 0), 30);
        dueWriting(0, "-60.-59:-60.-30;");
    }

    void p07_aFrom0To4() {
        stock();
        due(x.rest(0, 1), 14394);
        due(x.rest(4, 1), 14399);
        badBeyond(0, 4, v -> x.rest(v, 1));
    }

    void p07_toFrom0To4() {
        stock();
        due(x.rest(1, 0), 14396);
        due("its cells", x.of(0, 0), 14396);
        due(x.rest(1, 4), 14396);
        due("its cells", x.of(4, 0), 14396);
        badBeyond(0, 4, v -> x.rest(1, v));
    }

    void p07_60BandsAreKept() {
        toBeHoled(-60);
        due(x.rest(1, 2), 14370);
        due("bands", x.of(2, 1), 60);
    }

    void p07_61BandsAreFull() {
        toBeHoled(-59);
        refused(FULL, () -> x.rest(1, 2));
        refused(FULL, () -> x.rest(1, 1));
    }

    /** Area 0: what is left over has 246 and so many spans. */
    private void manyGaps(int many) {
        x.box(-60, -60, 1, 1, 0);
        repeat(0, 60, 2, 0);
        repeat(0, 4, 0, 2);
        x.box(-58, 0, 1, 1, 1);
        repeat(1, many, 2, 0);
        x.mix(0, 0, 1, 0);
    }

    void p07_300SpansAreKept() {
        manyGaps(54);
        due(x.rest(0, 2), 14400 - 294);
        due("spans", x.of(2, 2), 300);
    }

    void p07_301SpansAreFull() {
        manyGaps(55);
        refused(FULL, () -> x.rest(0, 2));
    }

    void p07_badComesBeforeFull() {
        toBeHoled(-59);
        refused(BAD, () -> x.rest(1, 5));
        refused(BAD, () -> x.rest(1, -1));
    }

    // ---- 8: part

    /** Area 0: a U, a cell that meets it over a corner alone, and a box behind an empty row. */
    private void threeParts() {
        put(0, 0, 0, 1, 5, 4, 0, 1, 5, 0, 5, 5, 1, 5, 6, 1, 1, 0, -4, 2, 3);
    }

    void p08_thePartOfACell() {
        threeParts();
        due(x.part(0, 4, 0, 1), 15);
        dueWriting(1, "0.5:0.1,4.5;5.6:0.5;");
        due("from its other arm", x.part(0, 0, 0, 1), 15);
        due("the box", x.part(0, 1, -2, 1), 6);
        dueWriting(1, "-4.-1:0.2;");
        due("all stays", x.of(0, 0), 22);
    }

    void p08_overACornerItDoesNotHangTogether() {
        threeParts();
        due(x.part(0, 5, 6, 1), 1);
        dueWriting(1, "6.7:5.6;");
        x.box(-1, -1, 1, 1, 2);
        put(2, 0, 0, 1, 1);
        due(x.part(2, 0, 0, 3), 1);
        put(2, -1, 0, 1, 1);
        due("over two sides", x.part(2, 0, 0, 3), 3);
    }

    void p08_acrossAnEmptyRowItDoesNotHangTogether() {
        put(0, 3, 3, 2, 2, 3, 6, 2, 2);
        due(x.part(0, 3, 3, 1), 4);
        dueWriting(1, "3.5:3.5;");
        put(0, 4, 5, 1, 1);
        due("a cell between", x.part(0, 3, 3, 1), 9);
    }

    void p08_fromEdgeToEdgeItDoesNotHangTogether() {
        put(0, -60, 0, 1, 1, 59, 0, 1, 1, -60, 1, 1, 1);
        due(x.part(0, 59, 0, 1), 1);
        due(x.part(0, -60, 0, 1), 2);
        put(2, 0, -60, 1, 1, 0, 59, 1, 1);
        due(x.part(2, 0, 59, 1), 1);
    }

    void p08_roundManyTurnsItHangsTogether() {
        put(0, -9, -9, 18, 1, 8, -9, 1, 18, -9, 8, 18, 1, -9, -7, 1, 16, -9, -7, 16, 1, 6, -7, 1, 14, -7, 6, 14, 1,
            -7, -5, 1, 12, -7, -5, 5, 1, -4, -3, 2, 2);
        due("parts", x.of(0, 3), 2);
        due(x.part(0, -3, -5, 1), x.of(0, 0) - 4);
        due(x.part(0, -9, -9, 2), x.of(0, 0) - 4);
        due("same", x.two(1, 2, 0), 1);
    }

    void p08_xFromMinus60To59() {
        stock();
        x.mix(3, 4, 4, 4);
        x.rest(4, 0);
        due(x.part(0, -60, 0, 1), 14400);
        due(x.part(0, 59, 0, 1), 14400);
        badBeyond(-60, 59, v -> x.part(0, v, 0, 1));
    }

    void p08_yFromMinus60To59() {
        stock();
        x.mix(3, 4, 4, 4);
        x.rest(4, 0);
        due(x.part(0, 0, -60, 1), 14400);
        due(x.part(0, 0, 59, 1), 14400);
        badBeyond(-60, 59, v -> x.part(0, 0, v, 1));
    }

    void p08_aFrom0To4() {
        stock();
        due(x.part(0, -58, -59, 1), 6);
        due(x.part(4, 59, 59, 1), 1);
        badBeyond(0, 4, v -> x.part(v, 0, 0, 1));
    }

    void p08_toFrom0To4() {
        stock();
        due(x.part(1, 0, 0, 0), 4);
        dueWriting(0, "-1.1:-1.1;");
        due(x.part(1, -1, -1, 4), 4);
        dueWriting(4, "-1.1:-1.1;");
        badBeyond(0, 4, v -> x.part(1, 0, 0, v));
    }

    void p08_noIfTheCellIsNotOfIt() {
        stock();
        refused(NO, () -> x.part(1, 1, 0, 0));
        refused(NO, () -> x.part(1, 0, 1, 0));
        refused(NO, () -> x.part(1, -2, 0, 1));
        refused(NO, () -> x.part(1, 0, -2, 1));
    }

    void p08_noOfAnEmptyOne() {
        stock();
        x.mix(3, 4, 4, 4);
        refused(NO, () -> x.part(4, 0, 0, 0));
        refused(NO, () -> x.part(4, -60, -60, 4));
    }

    void p08_badComesBeforeNo() {
        stock();
        refused(BAD, () -> x.part(1, 9, 9, 5));
        refused(BAD, () -> x.part(1, 60, 9, 0));
        refused(BAD, () -> x.part(1, 9, -61, 0));
    }

    void p08_anotherAreasPartsDoNotMatter() {
        put(0, 0, 0, 1, 5, 4, 0, 1, 5, 0, 5, 5, 1);
        put(1, -9, 0, 1, 1, -7, 0, 1, 1, -9, 2, 1, 1);
        for (int[] cell : new int[][] {{-9, 0}, {-7, 0}, {-9, 2}}) {
            due("a U", x.part(0, 4, 0, 2), 15);
            due("a cell", x.part(1, cell[0], cell[1], 2), 1);
            due("this one", x.hit(2, cell[0], cell[1]), 1);
        }
    }

    void p08_intoItself() {
        threeParts();
        due(x.part(0, 2, 5, 0), 15);
        dueWriting(0, "0.5:0.1,4.5;5.6:0.5;");
    }

    void p08_oneOf300() {
        brimful(0);
        due(x.part(0, 8, 58, 1), 1);
        dueWriting(1, "58.59:8.9;");
        due(x.part(0, 0, -60, 1), 1);
        dueWriting(1, "-60.-59:0.1;");
    }

    // ---- 9: corner

    void p09_xFromMinus60To60() {
        stock();
        due(x.corner(-60, 0), 4);
        due(x.corner(60, 0), 5);
        badBeyond(-60, 60, v -> x.corner(v, 0));
    }

    void p09_yFromMinus60To60() {
        stock();
        due(x.corner(0, -60), 4);
        due(x.corner(0, 60), 5);
        badBeyond(-60, 60, v -> x.corner(0, v));
    }

    /** Ten corners of a box of 6 by 4. */
    private void tenCorners() {
        corners(0, 0, 2, 0, 4, 0, 6, 0, 6, 2, 6, 4, 4, 4, 2, 4, 0, 4, 0, 2);
    }

    void p09_theFirstToTheTenth() {
        for (int k = 1; k <= 10; k++) {
            due(x.corner(k, -k), k);
            due("CORNERS", x.told(4), k);
        }
    }

    void p09_theEleventhIsFull() {
        tenCorners();
        refused(FULL, () -> x.corner(-60, -60));
        refused(FULL, () -> x.corner(60, 60));
        due("what is round the ten", x.round(0), 24);
        dueWriting(0, "0.4:0.6;");
    }

    void p09_badComesBeforeFull() {
        tenCorners();
        refused(BAD, () -> x.corner(61, 0));
        refused(BAD, () -> x.corner(0, -61));
    }

    void p09_aBadOneIsNotTaken() {
        corners(0, 0, 4, 0);
        refused(BAD, () -> x.corner(61, 4));
        corners(4, 4, 0, 4);
        due(x.round(0), 16);
    }

    void p09_theSameOneOnceMore() {
        due(x.corner(5, 5), 1);
        due(x.corner(5, 5), 2);
    }

    void p09_behindARoundFrom1On() {
        tenCorners();
        x.round(0);
        due(x.corner(0, 0), 1);
    }

    // ---- 10: round

    private int around(int to, int... c) {
        corners(c);
        return x.round(to);
    }

    void p10_whatIsRoundTheCorners() {
        due(around(0, -2, -2, 3, -2, 3, 3, -2, 3), 25);
        dueWriting(0, "-2.3:-2.3;");
        due("the other way round", around(1, -2, 3, 3, 3, 3, -2, -2, -2), 25);
        due("same", x.two(0, 1, 0), 1);
    }

    void p10_thereAreNoneThen() {
        around(0, -2, -2, 3, -2, 3, 3, -2, 3);
        due(x.told(4), 0);
        refused(NO, () -> x.round(0));
    }

    void p10_whatWasThereGoes() {
        x.box(50, 50, 9, 9, 0);
        around(0, -2, -2, 3, -2, 3, 3, -2, 3);
        dueWriting(0, "-2.3:-2.3;");
    }

    void p10_toFrom0To4() {
        stock();
        due(x.round(0), 10);
        dueWriting(0, "0.1:0.4;1.2:1.4;2.3:2.4;3.4:3.4;");
        due(around(4, 7, 7, 8, 7, 8, 8, 7, 8), 1);
        dueWriting(4, "7.8:7.8;");
        corners(0, 0, 4, 0, 4, 4);
        badBeyond(0, 4, v -> x.round(v));
        due("they stay", x.round(1), 10);
    }

    void p10_of0CornersNo() {
        refused(NO, () -> x.round(0));
    }

    void p10_of1CornerNoAndItStays() {
        corners(0, 0);
        refused(NO, () -> x.round(0));
        due(around(0, 4, 0, 4, 4), 10);
    }

    void p10_of2CornersNoAndTheyStay() {
        x.box(7, 7, 1, 1, 0);
        corners(0, 0, 4, 0);
        refused(NO, () -> x.round(0));
        due(around(0, 4, 4), 10);
    }

    void p10_of3Corners() {
        due(around(0, 0, 0, 4, 0, 4, 4), 10);
    }

    void p10_of10Corners() {
        tenCorners();
        due(x.round(0), 24);
        dueWriting(0, "0.4:0.6;");
    }

    void p10_badComesBeforeNo() {
        refused(BAD, () -> x.round(5));
        corners(0, 0, 4, 0);
        refused(BAD, () -> x.round(-1));
    }

    void p10_theLastSideGoesToTheFirstCorner() {
        due(around(0, 0, 0, 6, 0, 6, 6), 21);
        dueWriting(0, "0.1:0.6;1.2:1.6;2.3:2.6;3.4:3.6;4.5:4.6;5.6:5.6;");
    }

    void p10_aCrossingInTheMiddleIsNotAboveIt() {
        // the slanting side crosses each row in the middle of a cell: that cell lies to its right
        due("to the right of it", around(0, 0, 0, 4, 0, 4, 4), 10);
        dueWriting(0, "0.1:0.4;1.2:1.4;2.3:2.4;3.4:3.4;");
        due("to the left of it", around(1, 0, 0, 0, 4, 4, 4), 6);
        dueWriting(1, "1.2:0.1;2.3:0.2;3.4:0.3;");
    }

    void p10_aCrossingJustBelowAndJustAboveAMiddle() {
        // the left side crosses row -1 at 119/240, row 0 at 121/240; the middle of cell 0 is at 1/2
        due(around(0, 0, -60, 10, -60, 10, 60, 1, 60), 1140);
        dueWriting(0, "-60.0:0.10;0.60:1.10;");
        due("leaning the other way", around(0, 1, -60, 10, -60, 10, 60, 0, 60), 1140);
        dueWriting(0, "-60.0:1.10;0.60:0.10;");
        due("left of 0", around(0, -1, -60, 10, -60, 10, 60, 0, 60), 1260);
        dueWriting(0, "-60.0:-1.10;0.60:0.10;");
    }

    void p10_belowZeroACrossingIsNotCutTowardsZero() {
        due(around(0, -10, -10, -1, -10, -10, -4), 27);
        dueWriting(0, "-10.-9:-10.-2;-9.-8:-10.-3;-8.-7:-10.-5;-7.-6:-10.-6;-6.-5:-10.-8;-5.-4:-10.-9;");
    }

    void p10_levelSidesAreNotCrossed() {
        due(around(0, -60, 7, 60, 7, 0, 7), 0);
        dueWriting(0, "");
    }

    void p10_uprightSidesThereAndBack() {
        due(around(0, 7, -60, 7, 60, 7, 0), 0);
        dueWriting(0, "");
    }

    void p10_allCornersTheSame() {
        x.box(7, 7, 1, 1, 0);
        due(around(0, 5, 5, 5, 5, 5, 5), 0);
        dueWriting(0, "");
    }

    void p10_allCells() {
        due(around(0, -60, -60, 60, -60, 60, 60, -60, 60), 14400);
        dueWriting(0, "-60.60:-60.60;");
    }

    void p10_atTheLastRowAndColumn() {
        due(around(0, 59, 59, 60, 59, 60, 60, 59, 60), 1);
        dueWriting(0, "59.60:59.60;");
        due(around(0, -60, -60, -59, -60, -59, -59, -60, -59), 1);
        dueWriting(0, "-60.-59:-60.-59;");
    }

    void p10_twiceRoundIsEven() {
        due(around(0, 0, 0, 5, 0, 5, 5, 0, 5, 0, 0, 5, 0, 5, 5, 0, 5), 0);
    }

    void p10_aHoleWithin() {
        due(around(0, 0, 0, 9, 0, 9, 9, 0, 9, 0, 0, 3, 3, 6, 3, 6, 6, 3, 6, 3, 3), 72);
        dueWriting(0, "0.3:0.9;3.6:0.3,6.9;6.9:0.9;");
    }

    void p10_sidesThatCross() {
        due(around(0, 0, 0, 10, 10, 10, 0, 0, 10), 50);
        due("parts", x.of(0, 3), 2);
    }

    void p10_60BandsAreKept() {
        due(around(0, -60, -60, 60, -60, -60, 0), 3600);
        due("bands", x.of(0, 1), 60);
    }

    void p10_61BandsAreFullAndTheCornersStay() {
        stock();
        x.round(0);
        corners(-60, -60, 60, -60, -60, 1);
        refused(FULL, () -> x.round(0));
        refused(FULL, () -> x.round(4));
        due("the same corners and one more", around(0, -60, -60), FULL);
        due("CORNERS", x.told(4), 4);
    }

    void p10_aRowCrossedByTenSides() {
        // at 1, 3, 5, 7, 9, 11, 13, 15, 18, and by the last side at 10
        due(around(0, 0, 0, 2, 1, 4, 0, 6, 1, 8, 0, 10, 1, 12, 0, 14, 1, 16, 0, 20, 1), 10);
        dueWriting(0, "0.1:1.3,5.7,9.10,11.13,15.18;");
    }

    void p10_badComesBeforeFull() {
        corners(-60, -60, 60, -60, -60, 1);
        refused(BAD, () -> x.round(5));
    }

    // ---- 11: draw

    /** Area 3 becomes the boxes, told by box and mix alone. */
    private void drawnByHand(int seed, int n) {
        long drawn = seed;
        x.mix(3, 3, 3, 3);
        for (int k = 0; k < n; k++) {
            drawn = (drawn * 1103515245L + 12345L) & 0x7FFFFFFFL;
            put(3, (int) ((drawn >> 16) % 40) - 25, (int) ((drawn >> 12) % 40) - 25,
                (int) ((drawn >> 10) % 12) + 1, (int) ((drawn >> 5) % 12) + 1);
        }
    }

    void p11_oneBox() {
        // X is 12345
        due(x.draw(0, 1, 0), 2);
        dueWriting(0, "-22.-20:-25.-24;");
        // X is 1103527590
        due(x.draw(1, 1, 0), 40);
        dueWriting(0, "-10.0:13.17;");
    }

    void p11_boxesOrOneAnother() {
        // X is 1103527590, then 377401575, then 662824084
        drawnByHand(1, 3);
        due(x.draw(1, 3, 0), x.of(3, 0));
        due("same", x.two(0, 3, 0), 1);
    }

    void p11_whatWasThereGoes() {
        x.rest(0, 0);
        due(x.draw(0, 1, 0), 2);
        due("its cells", x.of(0, 0), 2);
    }

    void p11_seedFrom0To999999() {
        stock();
        drawnByHand(999999, 9);
        due(x.draw(999999, 9, 1), x.of(3, 0));
        due("same", x.two(1, 3, 0), 1);
        drawnByHand(0, 9);
        due(x.draw(0, 9, 1), x.of(3, 0));
        due("same", x.two(1, 3, 0), 1);
        badBeyond(0, 999999, v -> x.draw(v, 1, 1));
    }

    void p11_nFrom1To9() {
        stock();
        for (int n = 1; n <= 9; n += 8) {
            drawnByHand(4711, n);
            due(x.draw(4711, n, 1), x.of(3, 0));
            due("same", x.two(1, 3, 0), 1);
        }
        badBeyond(1, 9, v -> x.draw(1, v, 1));
    }

    void p11_toFrom0To4() {
        stock();
        due(x.draw(0, 1, 0), 2);
        dueWriting(0, "-22.-20:-25.-24;");
        due(x.draw(0, 1, 4), 2);
        dueWriting(4, "-22.-20:-25.-24;");
        badBeyond(0, 4, v -> x.draw(0, 1, v));
    }

    void p11_manySeeds() {
        for (int seed = 1; seed < 1000000; seed += 98765) {
            drawnByHand(seed, 9);
            due("seed " + seed, x.draw(seed, 9, 0), x.of(3, 0));
            due("same, seed " + seed, x.two(0, 3, 0), 1);
        }
    }
}
