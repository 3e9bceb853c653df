/** Promise 21 and THE TEXT of the terms: what a text may say, and where its FAULT is. */
public final class TextTest extends Cases {
    private static final String[] WITH_AREA = {"be", "or", "and", "but", "xor"};
    private static final String[] SENTENCES = {"be 1", "box 0 0 1 1", "none", "or 1", "and 1", "but 1", "xor 1", "move 1 1", "grow 1",
        "shrink 1", "flip", "turn"};

    public static void main(String[] args) throws Exception {
        run(TextTest.class, 21, 21);
    }

    /** A text that can be done: so many sentences, and what one of its areas is then. */
    private void good(String text, int sentences, int a, String writing) {
        x = new Plane();
        stock();
        due("does() of \"" + text + "\"", tell(text), sentences);
        dueWriting(a, writing);
    }

    /** Texts with a fault, each with a | ahead of it: all stays, and nothing counts. */
    private void faults(String... texts) {
        for (String text : texts) {
            x = new Plane();
            stock();
            x.clear();
            type(text.replace("|", ""));
            keeps(-300 - text.indexOf('|'), () -> x.does());
        }
    }

    // ---- each sentence

    void p21_be() {
        good("0 be 1;", 1, 0, "-1.1:-1.1;");
        good("0 be 0;", 1, 0, "-60.-58:-60.-57;");
        good("1 none; 0 be 1;", 2, 0, "");
    }

    void p21_box() {
        good("0 box -3 -2 5 3;", 1, 0, "-2.1:-3.2;");
    }

    void p21_none() {
        good("0 none;", 1, 0, "");
        good("0 none; 0 none;", 2, 0, "");
    }

    void p21_or() {
        good("1 or 2;", 1, 1, "-1.0:-1.1;0.1:-1.1,57.60;");
        good("1 or 1;", 1, 1, "-1.1:-1.1;");
    }

    void p21_and() {
        good("0 box 0 0 5 5; 0 and 1;", 2, 0, "0.1:0.1;");
        good("1 and 1;", 1, 1, "-1.1:-1.1;");
        good("0 and 1;", 1, 0, "");
    }

    void p21_but() {
        good("0 box -1 -1 3 2; 0 but 1;", 2, 0, "-1.1:1.2;");
        good("1 but 1;", 1, 1, "");
    }

    void p21_xor() {
        good("0 box 0 -1 2 2; 0 xor 1;", 2, 0, "-1.1:-1.0,1.2;");
        good("1 xor 1;", 1, 1, "");
    }

    void p21_move() {
        good("1 move 5 -3;", 1, 1, "-4.-2:4.6;");
        good("1 move 0 0;", 1, 1, "-1.1:-1.1;");
    }

    void p21_grow() {
        good("4 grow 1;", 1, 4, "58.60:58.60;");
    }

    void p21_shrink() {
        good("0 box 0 0 4 3; 0 shrink 1;", 2, 0, "1.2:1.3;");
        good("0 shrink 1;", 1, 0, "");
    }

    void p21_flip() {
        good("0 flip;", 1, 0, "-60.-58:57.60;");
    }

    void p21_turn() {
        good("0 turn;", 1, 0, "-60.-57:-60.-58;");
        good("2 turn;", 1, 2, "57.60:0.1;");
    }

    // ---- numbers as told

    void p21_areaFrom0To4() {
        good("0 none;", 1, 0, "");
        good("4 none;", 1, 4, "");
        faults("|-1 none;", "|5 none;", "|9 none;", "|10 none;", "|99 none;", "|-99 none;");
    }

    void p21_otherAreaFrom0To4() {
        for (String word : WITH_AREA) {
            x = new Plane();
            due(word, tell("1 " + word + " 0; 1 " + word + " 4;"), 2);
            faults("0 " + word + " |-1;", "0 " + word + " |5;", "0 " + word + " |10;", "0 " + word + " |-4;");
        }
    }

    void p21_boxXFromMinus60To59() {
        good("0 box -60 0 1 1;", 1, 0, "0.1:-60.-59;");
        good("0 box 59 0 1 1;", 1, 0, "0.1:59.60;");
        faults("0 box |-61 0 1 1;", "0 box |60 0 1 1;", "0 box |99 0 1 1;", "0 box |-99 0 1 1;");
    }

    void p21_boxYFromMinus60To59() {
        good("0 box 0 -60 1 1;", 1, 0, "-60.-59:0.1;");
        good("0 box 0 59 1 1;", 1, 0, "59.60:0.1;");
        faults("0 box 0 |-61 1 1;", "0 box 0 |60 1 1;", "0 box 0 |99 1 1;", "0 box 0 |-99 1 1;");
    }

    void p21_boxWFrom1To99() {
        good("0 box 0 0 1 1;", 1, 0, "0.1:0.1;");
        good("0 box -60 0 99 1;", 1, 0, "0.1:-60.39;");
        faults("0 box 0 0 |0 1;", "0 box 0 0 |-1 1;", "0 box 0 0 |100 1;", "0 box 0 0 |-99 1;");
    }

    void p21_boxHFrom1To99() {
        good("0 box 0 0 1 1;", 1, 0, "0.1:0.1;");
        good("0 box 0 -60 1 99;", 1, 0, "-60.39:0.1;");
        faults("0 box 0 0 1 |0;", "0 box 0 0 1 |-1;", "0 box 0 0 1 |100;", "0 box 0 0 1 |-99;");
    }

    void p21_boxToTheEdgesAndNoFurther() {
        good("0 box 50 50 10 10;", 1, 0, "50.60:50.60;");
        x = new Plane();
        stock();
        x.clear();
        type("0 box 50 50 11 10;");
        refused(NO, () -> x.does());
        x.clear();
        type("0 box 50 50 10 11;");
        refused(NO, () -> x.does());
    }

    void p21_moveXFromMinus99To99() {
        good("0 move 99 0;", 1, 0, "-60.-58:39.42;");
        good("4 move -99 0;", 1, 4, "59.60:-40.-39;");
        faults("0 move |100 0;", "4 move |-100 0;");
    }

    void p21_moveYFromMinus99To99() {
        good("0 move 0 99;", 1, 0, "39.41:-60.-57;");
        good("4 move 0 -99;", 1, 4, "-40.-39:59.60;");
        faults("0 move 0 |100;", "4 move 0 |-100;");
    }

    void p21_moveToTheEdgesAndNoFurther() {
        good("1 move 59 59;", 1, 1, "58.60:58.60;");
        good("1 move -59 -59;", 1, 1, "-60.-58:-60.-58;");
        x = new Plane();
        stock();
        for (String by : new String[] {"60 0", "-60 0", "0 60", "0 -60"}) {
            x.clear();
            type("1 move " + by + ";");
            refused(NO, () -> x.does());
        }
    }

    void p21_growNFrom1To9() {
        good("1 grow 1;", 1, 1, "-2.2:-2.2;");
        good("1 grow 9;", 1, 1, "-10.10:-10.10;");
        good("0 grow 9;", 1, 0, "-60.-49:-60.-48;");
        faults("1 grow |0;", "1 grow |10;", "1 grow |-1;", "1 grow |-9;", "1 grow |99;");
    }

    void p21_shrinkNFrom1To9() {
        good("0 box 0 0 19 20; 0 shrink 1;", 2, 0, "1.19:1.18;");
        good("0 box 0 0 19 20; 0 shrink 9;", 2, 0, "9.11:9.10;");
        faults("1 shrink |0;", "1 shrink |10;", "1 shrink |-1;", "1 shrink |-9;", "1 shrink |99;");
    }

    void p21_numbersOf2FiguresGoByTheirValue() {
        good("00 none;", 1, 0, "");
        good("04 be 01;", 1, 4, "-1.1:-1.1;");
        good("1 grow 09;", 1, 1, "-10.10:-10.10;");
        good("1 move 05 -03;", 1, 1, "-4.-2:4.6;");
    }

    void p21_minus0Is0() {
        good("-0 none;", 1, 0, "");
        good("1 move -0 -00;", 1, 1, "-1.1:-1.1;");
        faults("1 grow |-0;", "0 box 0 0 |-0 1;");
    }

    void p21_threeFiguresAreAFaultAtTheFirst() {
        faults("|000 none;", "|-000 none;", "0 be |001;", "0 be |-001;", "0 box |000 0 1 1;", "0 box 0 |012 1 1;",
            "0 box 0 0 |001 1;", "0 box 0 0 1 |001;", "0 move 0 |012;", "0 grow |001;", "0 shrink |001;",
            "|1234567890 none;", "0 move |99999999999999999999 0;", "0 move |4294967297 0;", "0 be |256;");
    }

    void p21_aMinusWithoutAFigureIsAFaultAtIt() {
        faults("|-", "|- 1 none;", "|-;", "|-none;", "|--1 none;", "0 box |- 1 1 1;", "0 box 0 |--1 1 1;", "0 box 0 |-;",
            "0 box 0 |-x;", "0 move 0 |-", "0 move 0 |- ", "0 move 1|- 1;");
    }

    // ---- words

    void p21_wordsThatAreNone() {
        faults("0 |b 1;", "0 |bee 1;", "0 |bo 0 0 1 1;", "0 |boxx 0 0 1 1;", "0 |non;", "0 |nones;", "0 |o 1;", "0 |ore 1;",
            "0 |an 1;", "0 |ands 1;", "0 |bu 1;", "0 |butt 1;", "0 |xo 1;", "0 |xorx 1;", "0 |mov 1 1;", "0 |moved 1 1;",
            "0 |gro 1;", "0 |grown 1;", "0 |shrin 1;", "0 |shrinks 1;", "0 |shrunk 1;", "0 |fli;", "0 |flipp;", "0 |tur;",
            "0 |turns;", "0 |x;", "0 |z 1;", "0 |abcdefghijklmnopqrstuvwxyz 1;");
    }

    void p21_wordsWithOneLetterChanged() {
        for (String sentence : SENTENCES) {
            for (int k = 0; k < sentence.length() && sentence.charAt(k) >= 'a'; k++) {
                faults("0 |" + sentence.substring(0, k) + "q" + sentence.substring(k + 1) + ";");
            }
        }
    }

    void p21_wordsCutShortByTheEnd() {
        faults("0 |b", "0 |no", "0 |shrin", "0 none; 1 |fl");
    }

    void p21_wordsAreOfSmallLettersAlone() {
        faults("0 |None;", "0 |NONE;", "0 |nonE;", "0 none|E;", "0 be|E1;", "0 |Be 1;", "0 |`be 1;", "0 |{be 1;", "0 be|`1;", "0 be|{1;");
    }

    void p21_aBlankWithinAWordCutsIt() {
        faults("0 |no ne;", "0 |b e 1;", "0 |bo x 0 0 1 1;", "0 |shr ink 1;");
    }

    void p21_twoWordsTogetherAreOne() {
        faults("0 |nonenone;", "0 |bebe 1;", "0 |flipturn;");
    }

    // ---- what can not stand there

    void p21_aSentenceBeginsWithANumber() {
        faults("|none;", "|be 0;", "|x", "|;", "|.", "0 none; |none;", "0 none;|;", "0 none;|x", "0 none; |- none;");
    }

    void p21_behindTheAreaComesAWord() {
        faults("0|;", "0 |;", "0 |1 none;", "0 |-1;", "0|-1 none;", "0 |123 none;", "0|.", "0 |- none;");
    }

    void p21_numbersComeBehindTheWord() {
        for (String word : WITH_AREA) {
            faults("0 " + word + "|;", "0 " + word + " |;", "0 " + word + " |x;", "0 " + word + " |be 1;", "0 " + word + "|,1;");
        }
        faults("0 box|;", "0 box 1|;", "0 box 1 1|;", "0 box 1 1 1|;", "0 box |x 1 1 1;", "0 box 1 |x 1 1;", "0 box 1 1 |x 1;",
            "0 box 1 1 1 |x;", "0 move|;", "0 move 1|;", "0 move |x 1;", "0 move 1 |x;", "0 grow|;", "0 grow |x;", "0 shrink|;",
            "0 shrink |x;");
    }

    void p21_noMoreNumbersThanTold() {
        for (String word : WITH_AREA) {
            faults("0 " + word + " 1 |2;", "0 " + word + " 1|-2;");
        }
        faults("0 box 1 1 1 1 |1;", "0 move 1 1 |1;", "0 grow 1 |1;", "0 shrink 1 |1;", "0 none |1;", "0 none|0;", "0 flip |1;",
            "0 flip|0;", "0 turn |0;", "0 turn|2;");
    }

    void p21_noWordBehindASentenceThatIsNotEnded() {
        faults("0 none |flip;", "0 be 1 |x;", "0 be 1|be 2;", "0 grow 1|x;", "0 box 0 0 1 1 |none;");
    }

    void p21_otherSignsStandNowhere() {
        for (char c : new char[] {0, 1, 9, 10, 13, 31, 33, '+', ',', '.', '/', ':', '<', '=', '?', '@', 'A', 'Z', '[', '_', '`', '{', '~', 127}) {
            faults("|" + c, "|" + c + "0 none;", "0|" + c + "none;", "0 none|" + c, "0 none|" + c + ";", "0 none;|" + c, "0 be |" + c + "1;", "0 move 1|" + c + "1;");
        }
    }

    // ---- blanks

    void p21_blanksAreNotNeededBetweenLettersAndFigures() {
        good("0box-3-2 5 3;1be0;1move-9-9;", 3, 1, "-11.-8:-12.-7;");
        good("0none;1flip;0be1;", 3, 0, "-1.1:-1.1;");
        good("0box0 0 1 1;0grow1;0shrink1;0turn;0or0;0and0;0xor1;", 7, 0, "-1.0:-1.1;0.1:-1.0;");
    }

    void p21_blanksAreNeededBetweenFigures() {
        faults("0 box 0 0 33|;", "0 move 11|;", "0 box |1111;", "0 box -3-2|;");
        good("0 box 0 0 3 3;", 1, 0, "0.3:0.3;");
    }

    void p21_aMinusNeedsNoBlankAheadOfIt() {
        good("1 move 5-3;", 1, 1, "-4.-2:4.6;");
        good("1 move-5-3;", 1, 1, "-4.-2:-6.-4;");
        good("0 box-60-60 1 1;", 1, 0, "-60.-59:-60.-59;");
    }

    void p21_asManyBlanksAsOneLikes() {
        good("   0   box   -3   -2   5   3   ;   1   be   0   ;   ", 2, 1, "-2.1:-3.2;");
        good(" ".repeat(113) + "0 none;", 1, 0, "");
        good("0 none;" + " ".repeat(113), 1, 0, "");
    }

    // ---- the end

    void p21_anEmptyText() {
        faults("|");
    }

    void p21_blanksAlone() {
        faults(" |", "  |", " ".repeat(120) + "|");
    }

    void p21_itEndsTooEarly() {
        faults("0|", "0 |", "0 none|", "0 none  |", "0 be|", "0 be |", "0 be 1|", "0 be 1 |", "0 box|", "0 box 1|", "0 box 1 1|",
            "0 box 1 1 1|", "0 box 1 1 1 1|", "0 box 1 1 1 1   |", "0 move|", "0 move 1|", "0 move 1 1|", "0 grow|", "0 grow 1|",
            "0 shrink|", "0 shrink 1|", "0 flip|", "0 turn|", "0 or|", "0 and|", "0 but|", "0 xor|", "0 none; 1|", "0 none; 1 |",
            "0 none; 1 flip|");
    }

    void p21_theLastNumberIsNotAsToldAndTheTextEnds() {
        faults("|5", "|123", "0 be |5", "0 grow |0", "0 box 0 0 1 |100");
    }

    void p21_120Bytes() {
        String full = "0or1;".repeat(24);
        good(full, 24, 0, "-60.-58:-60.-57;-1.1:-1.1;");
        faults(full.substring(0, 119) + "|", full.substring(0, 119) + " |", full.substring(0, 119) + "|x",
            full.substring(0, 118) + "|12", full.substring(0, 118) + "|5;", full.substring(0, 115) + "0none|",
            full.substring(0, 115) + "    0|");
    }

    void p21_theFirstFaultIsTold() {
        faults("0 |x; y;", "0 be |5; 9 none;", "0 none; 1 be |7; x", "|7 bee 9;");
    }

    void p21_places() {
        faults("0 none; 1 flip; 2 |flop;", "0 none;1 none;|22 none;", "0none;1be|5;", "   0 none ;  2  be   |9 ;");
    }
}
