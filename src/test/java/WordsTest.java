/** Promises 19 to 25, words: each case that the document's sentences name, by itself. TextTest has what a text may say. */
public final class WordsTest extends Cases {
    private static final int MOST_BYTES = 120;

    public static void main(String[] args) throws Exception {
        run(WordsTest.class, 19, 25);
    }

    // ---- 19: type

    void p19_cFrom0To127() {
        stock();
        due(x.type(0), 8);
        due(x.type(127), 9);
        badBeyond(0, 127, v -> x.type(v));
    }

    void p19_everyByteIsTaken() {
        for (int c = 0; c <= 127; c++) {
            if (c == MOST_BYTES) {
                x.clear();
            }
            due("byte " + c, x.type(c), c % MOST_BYTES + 1);
        }
    }

    void p19_theFirstToThe120th() {
        for (int k = 1; k <= MOST_BYTES; k++) {
            due(x.type(' '), k);
        }
        due(x.told(3), MOST_BYTES);
    }

    void p19_the121stIsFull() {
        type("0or1;".repeat(24));
        refused(FULL, () -> x.type(';'));
        refused(FULL, () -> x.type(0));
        refused(FULL, () -> x.type(127));
        due("the text is what it was", x.does(), 24);
    }

    void p19_badComesBeforeFull() {
        type(" ".repeat(MOST_BYTES));
        refused(BAD, () -> x.type(-1));
        refused(BAD, () -> x.type(128));
    }

    void p19_aBadOneIsNotTyped() {
        type("0 no");
        refused(BAD, () -> x.type(128));
        refused(BAD, () -> x.type('n' + 256));
        type("ne;");
        due(x.does(), 1);
    }

    void p19_behindAFullTextThatIsCleared() {
        type(" ".repeat(MOST_BYTES));
        x.type(' ');
        x.clear();
        due(x.type('0'), 1);
    }

    // ---- 20: clear

    void p20_howManyItHad() {
        type("0 none;");
        due(x.clear(), 7);
        due("bytes", x.told(3), 0);
    }

    void p20_ofAnEmptyTextIs0() {
        due(x.clear(), 0);
        due(x.clear(), 0);
    }

    void p20_ofAFullTextIs120() {
        type(" ".repeat(MOST_BYTES));
        due(x.clear(), MOST_BYTES);
        due(x.clear(), 0);
    }

    void p20_theTextIsEmptyThen() {
        type("0 none;");
        x.clear();
        due(x.does(), -300);
        type("1");
        due("nothing of the old one is left", x.does(), -301);
    }

    void p20_allElseStays() {
        stock();
        int[] want = state();
        want[3] = 0;
        x.clear();
        dueState(want);
    }

    // ---- 21: does

    void p21_howManySentences() {
        due("1", tell("0 none;"), 1);
        due("2", tell("0 none; 1 flip;"), 2);
        due("24", tell("0or1;".repeat(24)), 24);
    }

    void p21_areasAsTheyAreByThen() {
        due(tell("0 box 0 0 1 1; 0 grow 1; 1 be 0; 0 grow 1; 2 be 0; 2 but 1;"), 6);
        dueWriting(0, "-2.3:-2.3;");
        dueWriting(1, "-1.2:-1.2;");
        dueWriting(2, "-2.-1:-2.3;-1.2:-2.-1,2.3;2.3:-2.3;");
    }

    void p21_theTextStaysAndCanBeDoneAgain() {
        due(tell("0 box 0 0 1 1; 1 xor 0;"), 2);
        due("bytes", x.told(3), 23);
        due("cells", x.of(1, 0), 1);
        due("again", x.does(), 2);
        due("cells", x.of(1, 0), 0);
    }

    void p21_cornersAndOtherAreasStay() {
        stock();
        due(tell("1 none;"), 1);
        due("CORNERS", x.told(4), 3);
        dueWriting(0, "-60.-58:-60.-57;");
        dueWriting(1, "");
        dueWriting(2, "0.1:57.60;");
        dueWriting(3, "58.60:0.1;");
        dueWriting(4, "59.60:59.60;");
        due("what is round them", x.round(0), 10);
    }

    void p21_anEmptyTextIsAFaultAt0() {
        stock();
        x.clear();
        keeps(-300, () -> x.does());
    }

    void p21_aFullTextThatEndsTooEarlyIsAFaultAt120() {
        stock();
        x.clear();
        type("0or1;".repeat(23) + "0or1 ");
        keeps(-420, () -> x.does());
    }

    void p21_noByABox() {
        stock();
        x.clear();
        type("1 none; 0 be 2; 2 box 59 0 2 1; 3 be 0;");
        refused(NO, () -> x.does());
    }

    void p21_noByAMove() {
        stock();
        x.clear();
        type("1 none; 3 be 2; 2 move 1 0;");
        refused(NO, () -> x.does());
    }

    void p21_noThoughALaterOneWouldMendIt() {
        stock();
        x.clear();
        type("2 move 1 0; 2 none;");
        refused(NO, () -> x.does());
        x.clear();
        type("2 move 2 0; 2 move -2 0;");
        refused(NO, () -> x.does());
    }

    void p21_noOnlyAsTheAreasAreByThen() {
        stock();
        due("it is empty by then", tell("2 none; 2 move 99 99;"), 2);
        due("it has been moved by then", tell("0 move 99 0; 0 move 18 0;"), 2);
        x.clear();
        type("0 move -99 0; 0 move -18 0; 0 move -1 0;");
        refused(NO, () -> x.does());
    }

    void p21_noIsCountedOnce() {
        stock();
        x.clear();
        type("2 move 1 0; 2 move 1 0; 1 box 59 59 2 2;");
        refused(NO, () -> x.does());
        refused(NO, () -> x.does());
    }

    /** The text can not be done, for the areas as the case has made them. */
    private void full(String text) {
        x.clear();
        type(text);
        refused(FULL, () -> x.does());
    }

    void p21_or60BandsAreKept61AreFull() {
        sixtyBands(0);
        x.box(1, -60, 1, 1, 1);
        due(tell("0 or 1;"), 1);
        x.box(5, -59, 1, 1, 1);
        full("2 be 0; 0 or 1;");
    }

    void p21_or300SpansAreKept301AreFull() {
        threeHundredSpans(0);
        due(tell("2 or 0; 2 or 0;"), 2);
        due("spans", x.of(2, 2), 300);
        x.box(0, 59, 1, 1, 1);
        full("3 be 2; 2 or 1;");
    }

    void p21_and60BandsAreKept() {
        toBeCut(15);
        due(tell("0 and 1;"), 1);
        due("bands", x.of(0, 1), 60);
    }

    void p21_and64BandsAreFull() {
        toBeCut(16);
        full("3 be 0; 0 and 1;");
    }

    void p21_but60BandsAreKept() {
        toBeHoled(-60);
        due(tell("0 but 1;"), 1);
        due("bands", x.of(0, 1), 60);
    }

    void p21_but61BandsAreFull() {
        toBeHoled(-59);
        full("3 be 0; 0 but 1;");
    }

    void p21_xor60BandsAreKept() {
        toBeHoled(-60);
        due(tell("0 xor 1;"), 1);
        due("bands", x.of(0, 1), 60);
    }

    void p21_xor61BandsAreFull() {
        toBeHoled(-59);
        full("3 be 0; 0 xor 1;");
    }

    void p21_grow60BandsAreKept() {
        stairs(0, 30);
        put(0, 0, 50, 1, 1);
        due(tell("0 grow 2;"), 1);
        due("bands", x.of(0, 1), 60);
    }

    void p21_grow61BandsAreFull() {
        stairs(0, 31);
        full("3 be 0; 0 grow 2;");
    }

    void p21_shrink60BandsAreKept() {
        holedStairs(0, 30, -58);
        due(tell("0 shrink 1;"), 1);
        due("bands", x.of(0, 1), 60);
    }

    void p21_shrink61BandsAreFull() {
        holedStairs(0, 30, -57);
        full("3 be 0; 0 shrink 1;");
    }

    void p21_turn300SpansAreKept301AreFull() {
        bars(0, 24);
        due(tell("1 be 0; 1 turn;"), 2);
        due("spans", x.of(1, 2), 300);
        put(0, -60, 59, 1, 1);
        full("3 be 0; 0 turn;");
    }

    void p21_fullThoughALaterOneWouldMendIt() {
        sixtyBands(0);
        x.box(5, -59, 1, 1, 1);
        full("2 be 1; 0 or 1; 0 none;");
    }

    void p21_be60BandsWith300SpansIsKept() {
        brimful(0);
        due(tell("1 be 0; 1 flip; 2 be 1; 2 move -9 1; 3 be 1; 3 xor 1;"), 6);
        due("bands", x.of(2, 1), 60);
        due("spans", x.of(2, 2), 300);
        due("cells", x.of(3, 0), 0);
    }

    void p21_theFirstThatCanNotBeDoneDecides() {
        sixtyBands(0);
        x.box(5, -59, 1, 1, 1);
        x.clear();
        type("2 box 59 59 2 1; 0 or 1;");
        refused(NO, () -> x.does());
        x.clear();
        type("0 or 1; 2 box 59 59 2 1;");
        refused(FULL, () -> x.does());
    }

    void p21_aFaultComesBeforeNo() {
        stock();
        x.clear();
        type("1 none; 2 box 59 0 2 1; 3 be 5;");
        keeps(-329, () -> x.does());
    }

    void p21_aFaultComesBeforeFull() {
        sixtyBands(0);
        x.box(5, -59, 1, 1, 1);
        type("1 none; 0 or 1");
        keeps(-314, () -> x.does());
        x.clear();
        type("0 or 1; 0 non;");
        keeps(-310, () -> x.does());
    }

    void p21_aFaultBehindGoodSentencesUndoesThem() {
        stock();
        x.clear();
        type("0 none; 1 flip; 2 |;");
        keeps(-318, () -> x.does());
    }

    void p21_behindAFaultTheTextGoesOn() {
        type("0 box 0 0 2 1");
        due("a FAULT", x.does(), -313);
        due("bytes", x.told(3), 13);
        type(";");
        due(x.does(), 1);
        dueWriting(0, "0.1:0.2;");
    }

    void p21_behindARefusalTheTextStays() {
        type("0 box 59 0 2 1;");
        due(x.does(), NO);
        due("bytes", x.told(3), 15);
        due("again", x.does(), NO);
    }

    // ---- 22: writing

    /** Area 0. */
    private static final String MANY_SIGNS = "-60.-51:-60.-55,-9.0,10.60;0.60:0.60;";

    private void manySigns() {
        put(0, -60, -60, 5, 9, -9, -60, 9, 9, 10, -60, 50, 9, 0, 0, 60, 60);
    }

    void p22_everySign() {
        manySigns();
        due("how many", x.writing(0, -1), MANY_SIGNS.length());
        for (int k = 0; k < MANY_SIGNS.length(); k++) {
            due("sign " + k, x.writing(0, k), MANY_SIGNS.charAt(k));
        }
    }

    void p22_theOneBehindTheLastIsNone() {
        manySigns();
        keeps(';', () -> x.writing(0, MANY_SIGNS.length() - 1));
        keeps(NONE, () -> x.writing(0, MANY_SIGNS.length()));
        keeps(NONE, () -> x.writing(0, MANY_SIGNS.length() + 1));
        keeps(NONE, () -> x.writing(0, HIGH));
    }

    void p22_kFromMinus1On() {
        manySigns();
        keeps(37, () -> x.writing(0, -1));
        keeps('-', () -> x.writing(0, 0));
        refused(BAD, () -> x.writing(0, -2));
        refused(BAD, () -> x.writing(0, LOW));
    }

    void p22_ofAnEmptyOneNoSigns() {
        keeps(0, () -> x.writing(0, -1));
        keeps(NONE, () -> x.writing(0, 0));
        refused(BAD, () -> x.writing(0, -2));
    }

    void p22_aFrom0To4() {
        stock();
        due(x.writing(0, -1), 16);
        due(x.writing(4, -1), 12);
        badBeyond(0, 4, v -> x.writing(v, -1));
    }

    void p22_badComesBeforeNone() {
        stock();
        refused(BAD, () -> x.writing(5, 1000));
        refused(BAD, () -> x.writing(-1, HIGH));
    }

    void p22_numbersOf1And2Figures() {
        x.box(-1, 0, 2, 1, 0);
        dueWriting(0, "0.1:-1.1;");
        x.box(-9, 9, 10, 1, 0);
        dueWriting(0, "9.10:-9.1;");
        x.box(-10, 10, 21, 1, 0);
        dueWriting(0, "10.11:-10.11;");
        x.box(-20, -20, 10, 11, 0);
        dueWriting(0, "-20.-9:-20.-10;");
        x.box(-60, -60, 99, 99, 0);
        dueWriting(0, "-60.39:-60.39;");
        x.box(50, 50, 10, 10, 0);
        dueWriting(0, "50.60:50.60;");
    }

    void p22_allCells() {
        x.rest(0, 0);
        dueWriting(0, "-60.60:-60.60;");
    }

    private static String brimfulWriting() {
        StringBuilder s = new StringBuilder();
        for (int y = -60; y < 60; y += 2) {
            s.append(y).append('.').append(y + 1).append(":0.1,2.3,4.5,6.7,8.9;");
        }
        return s.toString();
    }

    void p22_of60BandsWith300Spans() {
        String want = brimfulWriting();
        brimful(0);
        due(x.writing(0, -1), want.length());
        for (int k = 0; k < want.length(); k += 7) {
            due("sign " + k, x.writing(0, k), want.charAt(k));
        }
        due("the last", x.writing(0, want.length() - 1), ';');
        due("the one behind", x.writing(0, want.length()), NONE);
    }

    // ---- 23: mark

    void p23_ofAnEmptyOneIs0() {
        keeps(0, () -> x.mark(0));
    }

    void p23_ofAFewSigns() {
        x.box(0, 0, 1, 1, 0);
        int h = 0;
        for (char c : "0.1:0.1;".toCharArray()) {
            h = 31 * h + c;
        }
        int want = h;
        keeps(want, () -> x.mark(0));
    }

    void p23_goesRoundAsIntsDo() {
        x.box(0, 0, 1, 1, 0);
        long far = 0;
        for (char c : "0.1:0.1;".toCharArray()) {
            far = 31 * far + c;
        }
        due("far beyond an int", far > HIGH ? 1 : 0, 1);
        due(x.mark(0), (int) far);
        x.rest(1, 0);
        due("below 0", x.mark(0), -1095367199);
    }

    void p23_of60BandsWith300Spans() {
        brimful(0);
        due(x.mark(0), brimfulWriting().hashCode());
    }

    void p23_aFrom0To4() {
        stock();
        due(x.mark(0), "-60.-58:-60.-57;".hashCode());
        due(x.mark(4), "59.60:59.60;".hashCode());
        badBeyond(0, 4, v -> x.mark(v));
    }

    // ---- 24: told

    void p24_whatFrom0To5() {
        stock();
        due(x.told(0), 0);
        due(x.told(5), 16);
        badBeyond(0, 5, v -> x.told(v));
    }

    void p24_each() {
        stock();
        x.round(5);
        x.round(-1);
        x.box(59, 0, 2, 1, 0);
        x.mix(3, 4, 4, 4);
        x.part(4, 0, 0, 0);
        x.move(0, -1, 0, 0);
        type(" ".repeat(114));
        int[] want = {2, 3, 1, 120, 3, 15};
        for (int what = 0; what <= 5; what++) {
            due("told(" + what + ")", x.told(what), want[what]);
        }
    }

    void p24_aBadQuestionCountsItself() {
        x.told(6);
        x.told(-1);
        due(x.told(0), 2);
    }

    void p24_askingChangesNothing() {
        stock();
        keeps(0, () -> x.told(0));
        keeps(7, () -> x.told(3));
        keeps(3, () -> x.told(4));
        keeps(16, () -> x.told(5));
    }

    void p24_noneIsNotRefused() {
        x.of(0, 5);
        x.span(0, 0, 0);
        x.apart(0, 1);
        x.writing(0, 0);
        for (int what = 0; what <= 2; what++) {
            due("told(" + what + ")", x.told(what), 0);
        }
    }

    void p24_aFaultIsNotRefused() {
        x.does();
        tell("0 be 5;");
        for (int what = 0; what <= 2; what++) {
            due("told(" + what + ")", x.told(what), 0);
        }
    }

    void p24_badOften() {
        for (int k = 1; k <= 200; k++) {
            x.hit(5, 0, 0);
            due(x.told(0), k);
        }
    }

    void p24_bytesFrom0To120() {
        due(x.told(3), 0);
        type(" ".repeat(MOST_BYTES));
        due(x.told(3), MOST_BYTES);
        x.type(' ');
        due(x.told(3), MOST_BYTES);
    }

    void p24_cornersFrom0To10() {
        due(x.told(4), 0);
        for (int k = 1; k <= 11; k++) {
            x.corner(k, k);
            due(x.told(4), Math.min(k, 10));
        }
    }

    void p24_cellsFrom0To5TimesAll() {
        due(x.told(5), 0);
        for (int a = 0; a < 5; a++) {
            x.rest(a, a);
            due(x.told(5), 14400 * (a + 1));
        }
    }

    void p24_cellsOfEachAreaForItself() {
        x.box(0, 0, 2, 2, 0);
        x.box(0, 0, 3, 3, 4);
        due(x.told(5), 13);
    }

    // ---- 25: digest

    private static long digestOf(int[] told, int[][] areas, String... writings) {
        long h = 1979;
        for (int v : told) {
            h = 31 * h + v;
        }
        for (int a = 0; a < 5; a++) {
            for (int v : areas[a]) {
                h = 31 * h + v;
            }
            h = 31 * h + writings[a].hashCode();
        }
        return h;
    }

    void p25_ofANewObject() {
        long h = 1979;
        for (int k = 0; k < 26; k++) {
            h *= 31;
        }
        due(x.digest(), h);
    }

    void p25_everyNumberInItsOrder() {
        stock();
        put(1, 5, 0, 1, 1);
        x.round(5);
        x.round(6);
        x.round(7);
        x.box(59, 0, 2, 1, 0);
        x.box(0, 59, 1, 2, 0);
        type(" ".repeat(114));
        long want = digestOf(new int[] {3, 2, 1, 120, 3, 16}, new int[][] {{6, 1, 1}, {5, 2, 3}, {3, 1, 1}, {2, 1, 1}, {0, 0, 0}},
            "-60.-58:-60.-57;", "-1.0:-1.1;0.1:-1.1,5.6;", "0.1:57.60;", "58.60:0.1;", "");
        due(x.digest(), want);
    }

    void p25_aMarkBelow0IsTakenWithItsSign() {
        x.rest(0, 0);
        due("the mark is below 0", x.mark(0) < 0 ? 1 : 0, 1);
        int[] none = {0, 0, 0};
        due(x.digest(), digestOf(new int[] {0, 0, 0, 0, 0, 14400}, new int[][] {{14400, 1, 1}, none, none, none, none},
            "-60.60:-60.60;", "", "", "", ""));
    }

    void p25_of60BandsWith300Spans() {
        brimful(0);
        int[] none = {0, 0, 0};
        due(x.digest(), digestOf(new int[] {0, 0, 0, 0, 0, 300}, new int[][] {{300, 60, 300}, none, none, none, none},
            brimfulWriting(), "", "", "", ""));
    }

    void p25_askingChangesNothing() {
        stock();
        x.told(6);
        int[] want = state();
        long first = x.digest();
        due("again", x.digest(), first);
        dueState(want);
    }
}
