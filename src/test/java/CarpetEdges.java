/** Edges of promises 10 to 21: hands, wool and rows. */
final class CarpetEdges {
    private static final int SO = Given.SO;
    private static final int UPTO = Given.UPTO;
    private static final int TURN = Given.TURN;
    private static final int AGAIN = Given.AGAIN;
    private static final int SING = Given.SING;
    private static final int LIKE = Given.LIKE;
    private static final int LARGEST = Integer.MAX_VALUE;
    private static final int LEAST = Integer.MIN_VALUE;

    private CarpetEdges() {
    }

    private static void due(long got, long want) {
        Checks.due(got, want);
    }

    private static int sing(KnotCaller x, int... steps) {
        return Given.sing(x, steps);
    }

    /** A carpet W knots wide with wool and as many rows of colour 1, tied from chant 0. */
    private static KnotCaller tied(int w, int rows) {
        KnotCaller x = Given.wideWithWool(w);
        Given.tieMany(x, sing(x, UPTO, 0, 1), rows);
        return x;
    }

    /** The hands of all places of row 0. */
    private static String handsOfRow(KnotCaller x) {
        StringBuilder text = new StringBuilder();
        for (int place = 0; place < x.count(4); place++) {
            text.append(x.look(0, place, 0));
        }
        return text.toString();
    }

    // ---- 10: hand

    @Says("HANDS 0 .. 5 sit side by side")
    static void p10_handsAre0To5() {
        KnotCaller x = Given.wide(10);
        due(x.hand(-1, 8, 5), -1);
        due(x.hand(0, 9, 5), 1);
        due(x.hand(5, 9, 5), 1);
        due(x.hand(6, 9, 5), -1);
        due(x.hand(LARGEST, 9, 5), -1);
        due(x.hand(LEAST, 9, 5), -1);
    }

    @Says("each has a STRIP (how many knots, 1 .. 40;")
    static void p10_stripsAre1To40() {
        KnotCaller x = Given.wide(10);
        due(x.hand(0, 0, 5), -1);
        due(x.hand(0, 1, 5), 1);
        due(x.hand(0, 40, 5), 1);
        due(x.hand(0, 41, 5), -1);
        due(x.hand(0, -1, 5), -1);
        due(x.hand(0, LARGEST, 5), -1);
        due(x.hand(0, LEAST, 5), -1);
        due(x.hand(0, 40, 5), 0);
    }

    @Says("a PACE (knots a minute, 1 .. 20)")
    static void p10_pacesAre1To20() {
        KnotCaller x = Given.wide(10);
        due(x.hand(0, 8, 0), -1);
        due(x.hand(0, 8, 1), 1);
        due(x.hand(0, 8, 20), 1);
        due(x.hand(0, 8, 21), -1);
        due(x.hand(0, 8, -1), -1);
        due(x.hand(0, 8, LARGEST), -1);
        due(x.hand(0, 8, LEAST), -1);
        due(x.hand(0, 8, 20), 0);
    }

    @Says("1 if either is another than before, else 0.")
    static void p10_eitherBothOrNeither() {
        KnotCaller x = Given.wide(10);
        due(x.hand(3, 8, 5), 0);
        due(x.hand(3, 9, 5), 1);
        due(x.hand(3, 9, 6), 1);
        due(x.hand(3, 8, 5), 1);
        due(x.hand(3, 8, 5), 0);
        due(x.hand(2, 8, 5), 0);
        due(x.hand(4, 8, 5), 0);
    }

    @Says("-3: there is a ROW.")
    static void p10_whileThereIsARow() {
        KnotCaller x = tied(10, 2);
        due(x.hand(0, 3, 5), -3);
        due(x.hand(0, 8, 5), -3);
        x.cut();
        due(x.hand(0, 3, 5), -3);
        Checks.due(handsOfRow(x), "0000000011");
        x.cut();
        due(x.hand(0, 8, 5), 0);
        due(x.hand(0, 3, 5), 1);
    }

    @Says("-1; -3: there is a ROW.")
    static void p10_minus1AheadOfMinus3() {
        KnotCaller x = tied(10, 1);
        due(x.hand(-1, 8, 5), -1);
        due(x.hand(6, 8, 5), -1);
        due(x.hand(0, 0, 5), -1);
        due(x.hand(0, 41, 5), -1);
        due(x.hand(0, 8, 0), -1);
        due(x.hand(0, 8, 21), -1);
    }

    // ---- 11: dye

    @Says("COLOURS 0 .. 7")
    static void p11_coloursAre0To7() {
        KnotCaller x = Given.wide(10);
        due(x.dye(-1, 0, 1), -1);
        due(x.dye(0, 0, 1), 1);
        due(x.dye(7, 0, 1), 1);
        due(x.dye(8, 0, 1), -1);
        due(x.dye(LARGEST, 0, 1), -1);
        due(x.dye(LEAST, 0, 1), -1);
    }

    @Says("each with a SHADE (0 .. 9) and so many knots")
    static void p11_shadesAre0To9() {
        KnotCaller x = Given.wide(4);
        due(x.dye(1, -1, 2), -1);
        due(x.dye(1, 0, 2), 1);
        due(x.dye(1, 9, 2), 2);
        due(x.dye(1, 10, 2), -1);
        due(x.dye(1, LARGEST, 2), -1);
        due(x.dye(1, LEAST, 2), -1);
        x.tie(sing(x, UPTO, 0, 1));
        due(x.look(0, 1, 1), 0);
        due(x.look(0, 2, 1), 9);
    }

    @Says("-1 (knots 1 .. 1000)")
    static void p11_knotsAre1To1000() {
        KnotCaller x = Given.wide(10);
        due(x.dye(1, 0, 0), -1);
        due(x.wool(1), 0);
        due(x.dye(1, 0, 1), 1);
        due(x.wool(1), 1);
        due(x.dye(1, 0, 1000), 2);
        due(x.wool(1), 1001);
        due(x.dye(1, 0, 1001), -1);
        due(x.dye(1, 0, -1), -1);
        due(x.dye(1, 0, LARGEST), -1);
        due(x.dye(1, 0, LEAST), -1);
        due(x.wool(1), 1001);
    }

    @Says("-2: it has 10.")
    static void p11_the11thLotIsRefused() {
        KnotCaller x = Given.wide(10);
        for (int lot = 1; lot <= 10; lot++) {
            due(x.dye(7, 0, 1), lot);
        }
        due(x.dye(7, 0, 1), -2);
        due(x.wool(7), 10);
        due(x.dye(6, 0, 1), 1);
        due(x.dye(0, 0, 1), 1);
    }

    @Says("A LOT of wool of a COLOUR: how many LOTS it has.")
    static void p11_aLotThatIsUsedUpIsStillOne() {
        KnotCaller x = Given.wide(4);
        int chant = sing(x, UPTO, 0, 1);
        for (int lot = 1; lot <= 10; lot++) {
            due(x.dye(1, 0, 4), lot);
            due(x.tie(chant), lot - 1);
        }
        due(x.wool(1), 0);
        due(x.dye(1, 0, 4), -2);
    }

    @Says("-1 (knots 1 .. 1000); -2: it has 10.")
    static void p11_minus1AheadOfMinus2() {
        KnotCaller x = Given.wide(10);
        for (int lot = 0; lot < 10; lot++) {
            x.dye(1, 0, 1);
        }
        due(x.dye(1, -1, 1), -1);
        due(x.dye(1, 10, 1), -1);
        due(x.dye(1, 0, 0), -1);
        due(x.dye(1, 0, 1001), -1);
        due(x.dye(1, 0, 1), -2);
    }

    // ---- 12: tie

    @Says("A ROW is TIED: its number from 0.")
    static void p12_numbersFrom0To39() {
        KnotCaller x = Given.wideWithWool(40);
        int chant = sing(x, UPTO, 0, 1);
        for (int row = 0; row < 40; row++) {
            due(x.tie(chant), row);
        }
    }

    @Says("-2: there are 40;")
    static void p12_the41stIsRefused() {
        KnotCaller x = tied(4, 39);
        due(x.tie(0), 39);
        due(x.tie(0), -2);
        due(x.count(1), 40);
        due(x.wool(1), 2000 - 160);
        due(x.knot(40, 0), -1);
        x.cut();
        due(x.tie(0), 39);
        due(x.tie(0), -2);
    }

    @Says("-5: there isn't wool enough")
    static void p12_justEnoughWoolAndOneKnotTooLittle() {
        KnotCaller x = Given.wide(4);
        int chant = sing(x, UPTO, 0, 1);
        x.dye(1, 0, 3);
        due(x.tie(chant), -5);
        due(x.wool(1), 3);
        x.dye(1, 5, 1);
        due(x.tie(chant), 0);
        due(x.wool(1), 0);
        due(x.tie(chant), -5);
    }

    @Says("-5: there isn't wool enough")
    static void p12_tooLittleOfTheLastColourTakesNoneOfTheOthers() {
        KnotCaller x = Given.wide(4);
        int chant = sing(x, SO, 2, 0, SO, 1, 3, SO, 1, 7);
        x.dye(0, 0, 10);
        x.dye(3, 0, 10);
        due(x.tie(chant), -5);
        due(x.wool(0), 10);
        due(x.wool(3), 10);
        due(x.count(1), 0);
        x.dye(7, 0, 1);
        due(x.tie(chant), 0);
        due(x.wool(0), 8);
        due(x.wool(3), 9);
        due(x.wool(7), 0);
    }

    @Says("-4: it doesn't CLOSE")
    static void p12_oneKnotLessAndOneMore() {
        KnotCaller x = Given.wideWithWool(10);
        due(x.tie(sing(x)), -4);
        due(x.tie(sing(x, SO, 9, 1)), -4);
        due(x.tie(sing(x, SO, 11, 1)), -4);
        due(x.tie(sing(x, SO, 10, 1)), 0);
    }

    @Says("-1; -6; -4: it doesn't CLOSE")
    static void p12_noSuchChant() {
        KnotCaller x = Given.wideWithWool(10);
        due(x.tie(0), -1);
        x.chant();
        due(x.tie(-1), -1);
        due(x.tie(1), -1);
        due(x.tie(12), -1);
        due(x.tie(LARGEST), -1);
        due(x.tie(LEAST), -1);
    }

    @Says("-1; -6; -4: it doesn't CLOSE; -2: there are 40; -5: there isn't wool enough; in this order.")
    static void p12_refusalsInThisOrder() {
        KnotCaller x = Given.wide(4);
        int wild = sing(x, SO, 11, 1, AGAIN, 9, 0, AGAIN, 9, 0);
        int open = sing(x, SO, 3, 1);
        int whole = sing(x, SO, 4, 1);
        due(x.tie(wild), -6);
        due(x.tie(open), -4);
        due(x.tie(whole), -5);
        x.dye(1, 0, 160);
        Given.tieMany(x, whole, 40);
        due(x.wool(1), 0);
        due(x.tie(3), -1);
        due(x.tie(-1), -1);
        due(x.tie(wild), -6);
        due(x.tie(open), -4);
        due(x.tie(whole), -2);
        x.cut();
        due(x.tie(whole), -5);
    }

    @Says("Knots take it in order, row by row, place by place.")
    static void p12_aLotEndsWithinARow() {
        KnotCaller x = Given.wide(4);
        int chant = sing(x, UPTO, 0, 1);
        x.dye(1, 3, 1);
        x.dye(1, 4, 4);
        x.dye(1, 5, 3);
        x.tie(chant);
        x.tie(chant);
        int[] want = {3, 4, 4, 4, 4, 5, 5, 5};
        for (int i = 0; i < 8; i++) {
            due(x.look(i / 4, i % 4, 1), want[i]);
        }
        due(x.wool(1), 0);
    }

    // ---- 13: knot

    @Says("The COLOUR of a knot as it is (a FAULT's, if there is one). -1.")
    static void p13_placesFrom0ToTheLast() {
        KnotCaller x = Given.wideWithWool(4);
        x.tie(sing(x, SO, 1, 7, SO, 2, 1, SO, 1, 0));
        due(x.knot(0, -1), -1);
        due(x.knot(0, 0), 7);
        due(x.knot(0, 3), 0);
        due(x.knot(0, 4), -1);
        due(x.knot(0, LARGEST), -1);
        due(x.knot(0, LEAST), -1);
        KnotCaller y = tied(40, 1);
        due(y.knot(0, 39), 1);
        due(y.knot(0, 40), -1);
    }

    @Says("The COLOUR of a knot as it is (a FAULT's, if there is one). -1.")
    static void p13_rowsFrom0ToTheLatest() {
        KnotCaller x = tied(4, 0);
        due(x.knot(0, 0), -1);
        x.tie(0);
        due(x.knot(-1, 0), -1);
        due(x.knot(0, 0), 1);
        due(x.knot(1, 0), -1);
        Given.tieMany(x, 0, 39);
        due(x.knot(39, 0), 1);
        due(x.knot(40, 0), -1);
        x.cut();
        due(x.knot(39, 0), -1);
        due(x.knot(LARGEST, 0), -1);
        due(x.knot(LEAST, 0), -1);
    }

    @Says("The COLOUR of a knot as it is (a FAULT's, if there is one). -1.")
    static void p13_aFaultAtEitherEnd() {
        KnotCaller x = tied(4, 1);
        x.found(0, 0, 0);
        x.found(0, 3, 7);
        due(x.knot(0, 0), 0);
        due(x.knot(0, 1), 1);
        due(x.knot(0, 2), 1);
        due(x.knot(0, 3), 7);
    }

    // ---- 14: look

    @Says("Of a knot: 0 HAND, 1 SHADE, 2 COLOUR as called, 3 STEP that called it, 4 whether it is a FAULT. -1.")
    static void p14_whatIs0To4() {
        KnotCaller x = Given.wideWithWool(10);
        x.tie(sing(x, SO, 8, 1, UPTO, 0, 7));
        due(x.look(0, 9, -1), -1);
        due(x.look(0, 9, 0), 1);
        due(x.look(0, 9, 1), 7);
        due(x.look(0, 9, 2), 7);
        due(x.look(0, 9, 3), 1);
        due(x.look(0, 9, 4), 0);
        due(x.look(0, 9, 5), -1);
        due(x.look(0, 9, LARGEST), -1);
        due(x.look(0, 9, LEAST), -1);
    }

    @Says("Of a knot: 0 HAND, 1 SHADE, 2 COLOUR as called, 3 STEP that called it, 4 whether it is a FAULT. -1.")
    static void p14_rowsAndPlacesThatThereAre() {
        KnotCaller x = tied(4, 0);
        for (int what = 0; what < 5; what++) {
            due(x.look(0, 0, what), -1);
        }
        x.tie(0);
        x.tie(0);
        x.cut();
        for (int what = 0; what < 5; what++) {
            due(x.look(-1, 0, what), -1);
            due(x.look(1, 0, what), -1);
            due(x.look(0, -1, what), -1);
            due(x.look(0, 4, what), -1);
            due(x.look(0, 3, what), what == 1 || what == 2 ? 1 : 0);
        }
        due(x.look(LARGEST, 0, 0), -1);
        due(x.look(0, LEAST, 0), -1);
    }

    @Says("in order from place 0 on")
    static void p14_aStripsLastPlaceAndTheNextOnesFirst() {
        KnotCaller x = Given.wideWithWool(21);
        for (int hand = 0; hand < 6; hand++) {
            x.hand(hand, hand + 1, 5);
        }
        x.tie(sing(x, UPTO, 0, 1));
        Checks.due(handsOfRow(x), "011222333344444555555");
    }

    @Says("what is beyond all is the last one's")
    static void p14_beyondAllStrips() {
        KnotCaller x = Given.wideWithWool(40);
        for (int hand = 0; hand < 6; hand++) {
            x.hand(hand, 1, 5);
        }
        x.tie(sing(x, UPTO, 0, 1));
        due(x.look(0, 4, 0), 4);
        due(x.look(0, 5, 0), 5);
        due(x.look(0, 6, 0), 5);
        due(x.look(0, 39, 0), 5);
        due(x.hands(5, 0), 35);
    }

    @Says("places that a narrower carpet has not are nobody's")
    static void p14_stripsBeyondTheCarpet() {
        KnotCaller x = Given.wideWithWool(10);
        x.hand(0, 9, 5);
        x.hand(1, 40, 5);
        x.tie(sing(x, UPTO, 0, 1));
        Checks.due(handsOfRow(x), "0000000001");
        int[] knots = {9, 1, 0, 0, 0, 0};
        for (int hand = 0; hand < 6; hand++) {
            due(x.hands(hand, 0), knots[hand]);
        }
    }

    @Says("places that a narrower carpet has not are nobody's")
    static void p14_oneStripAsWideAsTheCarpet() {
        KnotCaller x = Given.wideWithWool(40);
        x.hand(0, 40, 5);
        x.tie(sing(x, UPTO, 0, 1));
        due(x.look(0, 39, 0), 0);
        x.cut();
        x.hand(0, 39, 5);
        x.tie(0);
        due(x.look(0, 38, 0), 0);
        due(x.look(0, 39, 0), 1);
    }

    @Says("the first STEP of the row's own CHANT at whose end there are more knots than its place")
    static void p14_aStepsLastPlaceAndTheNextOnesFirst() {
        KnotCaller x = Given.wideWithWool(4);
        x.tie(sing(x, SO, 1, 1, SO, 2, 1, SO, 1, 1));
        due(x.look(0, 0, 3), 0);
        due(x.look(0, 1, 3), 1);
        due(x.look(0, 2, 3), 1);
        due(x.look(0, 3, 3), 2);
    }

    @Says("the first STEP of the row's own CHANT at whose end there are more knots than its place")
    static void p14_stepsWithoutKnotsCalledNone() {
        KnotCaller x = Given.wideWithWool(4);
        int nothing = sing(x);
        x.tie(sing(x, TURN, 0, 0, SING, nothing, 0, SO, 1, 1, SING, nothing, 0, UPTO, 0, 2, LIKE, 1, 0));
        due(x.look(0, 0, 3), 2);
        due(x.look(0, 1, 3), 4);
        due(x.look(0, 3, 3), 4);
    }

    @Says("the first STEP of the row's own CHANT at whose end there are more knots than its place")
    static void p14_theTwelfthStep() {
        KnotCaller x = Given.wideWithWool(12);
        x.tie(Given.singMany(x, 12, SO, 1));
        for (int place = 0; place < 12; place++) {
            due(x.look(0, place, 3), place);
        }
    }

    @Says("the first STEP of the row's own CHANT at whose end there are more knots than its place")
    static void p14_knotsThatAreSungAreOfTheStepThatSings() {
        KnotCaller x = Given.wideWithWool(4);
        int sung = sing(x, SO, 1, 1, SO, 1, 2, SO, 1, 3);
        x.tie(sing(x, SO, 1, 4, SING, sung, 0));
        due(x.look(0, 0, 3), 0);
        for (int place = 1; place < 4; place++) {
            due(x.look(0, place, 3), 1);
        }
    }

    @Says("the first STEP of the row's own CHANT at whose end there are more knots than its place")
    static void p14_endsOfTheSungStepsDoNotCount() {
        KnotCaller x = Given.wideWithWool(10);
        int sung = sing(x, SO, 5, 1, SO, 1, 2, SO, 1, 3);
        x.tie(sing(x, SO, 3, 4, SING, sung, 0));
        due(x.look(0, 2, 3), 0);
        due(x.look(0, 3, 3), 1);
        due(x.look(0, 4, 3), 1);
        due(x.look(0, 9, 3), 1);
    }

    @Says("FAULTS: a knot may be told to be of another COLOUR than was called.")
    static void p14_aFaultAndNoMoreAFault() {
        KnotCaller x = tied(4, 1);
        due(x.look(0, 3, 4), 0);
        x.found(0, 3, 0);
        due(x.look(0, 3, 4), 1);
        due(x.look(0, 2, 4), 0);
        due(x.look(0, 3, 2), 1);
        due(x.look(0, 3, 1), 1);
        x.found(0, 3, 1);
        due(x.look(0, 3, 4), 0);
    }

    // ---- 15: found

    @Says("A knot is told to be of a COLOUR: 1 if it is a FAULT then, else 0. -1.")
    static void p15_coloursAre0To7() {
        KnotCaller x = tied(4, 1);
        due(x.found(0, 0, -1), -1);
        due(x.found(0, 0, 0), 1);
        due(x.found(0, 0, 7), 1);
        due(x.found(0, 0, 8), -1);
        due(x.found(0, 0, LARGEST), -1);
        due(x.found(0, 0, LEAST), -1);
        due(x.knot(0, 0), 7);
    }

    @Says("A knot is told to be of a COLOUR: 1 if it is a FAULT then, else 0. -1.")
    static void p15_asCalledIsNoFault() {
        KnotCaller x = tied(4, 1);
        due(x.found(0, 2, 1), 0);
        due(x.count(2), 0);
        due(x.found(0, 2, 2), 1);
        due(x.found(0, 2, 2), 1);
        due(x.count(2), 1);
        due(x.found(0, 2, 1), 0);
        due(x.count(2), 0);
    }

    @Says("A knot is told to be of a COLOUR: 1 if it is a FAULT then, else 0. -1.")
    static void p15_rowsAndPlacesThatThereAre() {
        KnotCaller x = tied(4, 0);
        due(x.found(0, 0, 2), -1);
        x.tie(0);
        x.tie(0);
        x.cut();
        due(x.found(-1, 0, 2), -1);
        due(x.found(1, 0, 2), -1);
        due(x.found(0, -1, 2), -1);
        due(x.found(0, 4, 2), -1);
        due(x.found(LARGEST, 0, 2), -1);
        due(x.found(0, LEAST, 2), -1);
        due(x.count(2), 0);
        due(x.found(0, 0, 2), 1);
        due(x.found(0, 3, 2), 1);
        due(x.count(2), 2);
    }

    @Says("A knot is told to be of a COLOUR: 1 if it is a FAULT then, else 0. -1.")
    static void p15_aRowTiedWhereOneWasCutHasNoFaults() {
        KnotCaller x = tied(4, 1);
        x.found(0, 0, 2);
        x.cut();
        x.tie(0);
        due(x.look(0, 0, 4), 0);
        due(x.knot(0, 0), 1);
    }

    // ---- 16: cut

    @Says("-3: there is none.")
    static void p16_withoutARow() {
        KnotCaller x = tied(4, 0);
        due(x.cut(), -3);
        x.tie(0);
        due(x.cut(), 0);
        due(x.cut(), -3);
        due(x.count(1), 0);
        due(x.tie(0), 0);
    }

    @Says("The latest ROW is cut off: its number")
    static void p16_fromAllFortyDownToNone() {
        KnotCaller x = tied(4, 40);
        for (int row = 39; row >= 0; row--) {
            due(x.cut(), row);
            due(x.count(1), row);
        }
        due(x.cut(), -3);
    }

    @Says("its wool stays used")
    static void p16_wool() {
        KnotCaller x = Given.wide(4);
        int chant = sing(x, UPTO, 0, 1);
        x.dye(1, 3, 4);
        x.dye(1, 4, 4);
        x.tie(chant);
        x.cut();
        due(x.wool(1), 4);
        due(x.tie(chant), 0);
        due(x.look(0, 0, 1), 4);
        x.cut();
        due(x.wool(1), 0);
        due(x.tie(chant), -5);
    }

    // ---- 17: minutes

    @Says("Minutes that a ROW took. -1.")
    static void p17_rowsThatThereAre() {
        KnotCaller x = tied(4, 0);
        due(x.minutes(0), -1);
        Given.tieMany(x, 0, 40);
        due(x.minutes(-1), -1);
        due(x.minutes(0), 1);
        due(x.minutes(39), 1);
        due(x.minutes(40), -1);
        due(x.minutes(LARGEST), -1);
        due(x.minutes(LEAST), -1);
        x.cut();
        due(x.minutes(39), -1);
    }

    @Says("knots by PACE, rounded up")
    static void p17_justAMinuteAndAKnotMore() {
        KnotCaller x = Given.wideWithWool(10);
        int chant = sing(x, UPTO, 0, 1);
        int[][] paceAndMinutes = {{1, 10}, {2, 5}, {3, 4}, {4, 3}, {5, 2}, {9, 2}, {10, 1}, {11, 1}, {20, 1}};
        for (int[] each : paceAndMinutes) {
            x.hand(0, 10, each[0]);
            x.tie(chant);
            due(x.minutes(0), each[1]);
            x.cut();
        }
    }

    @Says("as many minutes as the slowest HAND needs")
    static void p17_theFirstTheLastAndOneWithoutKnots() {
        KnotCaller x = Given.wideWithWool(12);
        int chant = sing(x, UPTO, 0, 1);
        for (int hand = 0; hand < 6; hand++) {
            x.hand(hand, 2, 20);
        }
        for (int hand = 0; hand < 6; hand++) {
            x.hand(hand, 2, 1);
            x.tie(chant);
            due(x.minutes(0), 2);
            x.cut();
            x.hand(hand, 2, 20);
            x.tie(chant);
            due(x.minutes(0), 1);
            x.cut();
        }
        x.hand(0, 12, 20);
        x.hand(1, 40, 1);
        x.tie(chant);
        due(x.minutes(0), 1);
    }

    @Says("one more for each time that the COLOUR changes within its knots of the row")
    static void p17_aChangeAtTheEdgeOfTwoStripsIsNobodys() {
        KnotCaller x = Given.wideWithWool(10);
        x.hand(0, 5, 5);
        x.hand(1, 5, 5);
        x.tie(sing(x, SO, 5, 1, SO, 5, 2));
        x.tie(sing(x, SO, 4, 1, SO, 6, 2));
        x.tie(sing(x, SO, 6, 1, SO, 4, 2));
        due(x.minutes(0), 1);
        due(x.minutes(1), 2);
        due(x.minutes(2), 2);
    }

    @Says("one more for each time that the COLOUR changes within its knots of the row")
    static void p17_eachHandHasItsOwnChangesAlone() {
        KnotCaller x = Given.wideWithWool(10);
        x.hand(0, 5, 5);
        x.hand(1, 5, 5);
        x.tie(sing(x, SO, 4, 1, SO, 2, 2, SO, 4, 1));
        due(x.minutes(0), 2);
        x.tie(sing(x, SO, 1, 1, SO, 1, 2, SO, 7, 1, SO, 1, 2));
        due(x.minutes(1), 3);
    }

    @Says("one more for each time that the COLOUR changes within its knots of the row")
    static void p17_aChangeWithEachKnot() {
        KnotCaller x = Given.wideWithWool(40);
        x.hand(0, 40, 1);
        x.tie(sing(x, SO, 1, 1, SO, 1, 2, AGAIN, 9, 0, AGAIN, 1, 0));
        due(x.minutes(0), 40 + 39);
    }

    @Says("Minutes that a ROW took.")
    static void p17_aFaultTakesNone() {
        KnotCaller x = tied(4, 1);
        x.found(0, 1, 2);
        due(x.minutes(0), 1);
    }

    // ---- 18: shifts

    @Says("How many SHIFTS there are (what = 0), INNER ones (1), of ROWS that there are. -1.")
    static void p18_whatIs0Or1() {
        KnotCaller x = tied(4, 0);
        due(x.shifts(-1), -1);
        due(x.shifts(0), 0);
        due(x.shifts(1), 0);
        due(x.shifts(2), -1);
        due(x.shifts(LARGEST), -1);
        due(x.shifts(LEAST), -1);
    }

    @Says("that are of unlike SHADES; INNER, if they are of one row")
    static void p18_betweenTheLastKnotOfARowAndTheFirstOfTheNext() {
        KnotCaller x = Given.wide(4);
        int chant = sing(x, UPTO, 0, 1);
        x.dye(1, 0, 4);
        x.dye(1, 9, 4);
        x.tie(chant);
        due(x.shifts(0), 0);
        x.tie(chant);
        due(x.shifts(0), 1);
        due(x.shifts(1), 0);
    }

    @Says("that are of unlike SHADES; INNER, if they are of one row")
    static void p18_withinARowAtItsFirstAndItsLastKnot() {
        KnotCaller x = Given.wide(4);
        int chant = sing(x, UPTO, 0, 1);
        x.dye(1, 1, 1);
        x.dye(1, 2, 2);
        x.dye(1, 3, 5);
        x.tie(chant);
        due(x.shifts(0), 2);
        due(x.shifts(1), 2);
        x.tie(chant);
        due(x.shifts(0), 2);
        due(x.shifts(1), 2);
    }

    @Says("COLOURS 0 .. 7")
    static void p18_ofTheFirstAndTheLastColour() {
        KnotCaller x = Given.wide(4);
        x.dye(0, 0, 1);
        x.dye(0, 1, 1);
        x.dye(7, 8, 1);
        x.dye(7, 9, 1);
        x.tie(sing(x, SO, 2, 0, SO, 2, 7));
        due(x.shifts(0), 2);
        due(x.shifts(1), 2);
        KnotCaller y = Given.wide(4);
        y.dye(0, 0, 1);
        y.dye(0, 9, 3);
        y.tie(sing(y, UPTO, 0, 0));
        due(y.shifts(0), 1);
        due(y.shifts(1), 1);
    }

    @Says("two knots tied one behind the other of one COLOUR (whatever others are between)")
    static void p18_othersBetweenAndRowsWithoutTheColour() {
        KnotCaller x = Given.wide(4);
        int one = sing(x, SO, 1, 1, SO, 2, 2, SO, 1, 1);
        int two = sing(x, UPTO, 0, 2);
        x.dye(1, 0, 1);
        x.dye(1, 1, 1);
        x.dye(1, 2, 2);
        x.dye(2, 5, 100);
        x.tie(one);
        due(x.shifts(0), 1);
        due(x.shifts(1), 1);
        x.tie(two);
        x.tie(one);
        due(x.shifts(0), 2);
        due(x.shifts(1), 1);
    }

    @Says("that are of unlike SHADES")
    static void p18_anotherLotOfTheSameShadeAndAnotherColour() {
        KnotCaller x = Given.wide(4);
        x.dye(1, 3, 1);
        x.dye(1, 3, 1);
        x.dye(2, 4, 2);
        x.tie(sing(x, SO, 2, 1, SO, 2, 2));
        due(x.shifts(0), 0);
        due(x.shifts(1), 0);
    }

    @Says("of ROWS that there are")
    static void p18_rowsThatWereCutOff() {
        KnotCaller x = Given.wide(4);
        int chant = sing(x, UPTO, 0, 1);
        x.dye(1, 0, 4);
        x.dye(1, 1, 2);
        x.dye(1, 2, 2);
        x.dye(1, 0, 4);
        x.tie(chant);
        x.tie(chant);
        due(x.shifts(0), 2);
        due(x.shifts(1), 1);
        x.cut();
        due(x.shifts(0), 0);
        due(x.shifts(1), 0);
        x.tie(chant);
        due(x.shifts(0), 0);
        x.cut();
        x.cut();
        due(x.shifts(0), 0);
    }

    // ---- 19: wool

    @Says("How many knots of wool of a COLOUR are left. -1.")
    static void p19_coloursAre0To7() {
        KnotCaller x = Given.wide(4);
        x.dye(0, 0, 1);
        x.dye(7, 0, 2);
        due(x.wool(-1), -1);
        due(x.wool(0), 1);
        due(x.wool(1), 0);
        due(x.wool(7), 2);
        due(x.wool(8), -1);
        due(x.wool(LARGEST), -1);
        due(x.wool(LEAST), -1);
    }

    @Says("How many knots of wool of a COLOUR are left. -1.")
    static void p19_fromTenFullLotsDownToNone() {
        KnotCaller x = Given.wide(40);
        for (int lot = 0; lot < 10; lot++) {
            x.dye(1, lot, 1000);
        }
        due(x.wool(1), 10000);
        int chant = sing(x, UPTO, 0, 1);
        for (int i = 1; i <= 225; i++) {
            x.tie(chant);
            x.cut();
        }
        due(x.wool(1), 1000);
        for (int i = 1; i <= 25; i++) {
            due(x.tie(chant), i - 1);
        }
        due(x.wool(1), 0);
        due(x.tie(chant), -5);
    }

    // ---- 20: hands

    @Says("Knots of ROWS that there are that a HAND tied (what = 0), its FAULTS (1), WAGES (2). -1.")
    static void p20_whatIs0To2() {
        KnotCaller x = tied(40, 5);
        x.found(0, 0, 2);
        x.found(0, 8, 2);
        due(x.hands(1, -1), -1);
        due(x.hands(1, 0), 40);
        due(x.hands(1, 1), 1);
        due(x.hands(1, 2), 0);
        due(x.hands(1, 3), -1);
        due(x.hands(1, LARGEST), -1);
        due(x.hands(1, LEAST), -1);
    }

    @Says("HANDS 0 .. 5 sit side by side")
    static void p20_handsAre0To5() {
        KnotCaller x = Given.wideWithWool(40);
        for (int hand = 0; hand < 6; hand++) {
            x.hand(hand, 6, 5);
        }
        x.tie(sing(x, UPTO, 0, 1));
        for (int what = 0; what < 3; what++) {
            due(x.hands(-1, what), -1);
            due(x.hands(6, what), -1);
            due(x.hands(LARGEST, what), -1);
            due(x.hands(LEAST, what), -1);
        }
        due(x.hands(0, 0), 6);
        due(x.hands(5, 0), 10);
    }

    @Says("of ROWS that there are that a HAND tied")
    static void p20_rowsFromNoneToForty() {
        KnotCaller x = tied(40, 0);
        for (int what = 0; what < 3; what++) {
            due(x.hands(0, what), 0);
        }
        Given.tieMany(x, 0, 40);
        due(x.hands(0, 0), 320);
        due(x.hands(0, 2), 160);
        x.found(39, 0, 2);
        due(x.hands(0, 1), 1);
        due(x.hands(0, 2), 140);
        x.cut();
        due(x.hands(0, 0), 312);
        due(x.hands(0, 1), 0);
        due(x.hands(0, 2), 155);
    }

    @Says("5 cents for each 10 knots that it tied in all (cut)")
    static void p20_wagesOf9_10_19And20Knots() {
        int[][] stripAndWages = {{1, 0}, {9, 0}, {10, 5}, {11, 5}, {19, 5}, {20, 10}, {21, 10}, {39, 15}, {40, 20}};
        for (int[] each : stripAndWages) {
            KnotCaller x = Given.wideWithWool(40);
            x.hand(0, each[0], 5);
            x.tie(sing(x, UPTO, 0, 1));
            due(x.hands(0, 0), each[0]);
            due(x.hands(0, 2), each[1]);
        }
    }

    @Says("5 cents for each 10 knots that it tied in all (cut)")
    static void p20_tensAreCountedOverAllRows() {
        KnotCaller x = Given.wideWithWool(9);
        x.hand(0, 9, 5);
        int chant = sing(x, UPTO, 0, 1);
        int[] wages = {0, 5, 10, 15, 20, 25, 30, 35, 40, 45, 45};
        for (int want : wages) {
            x.tie(chant);
            due(x.hands(0, 2), want);
        }
    }

    @Says("less 20 for each of its FAULTS (0 at least)")
    static void p20_wagesDownTo0AndNotBelow() {
        KnotCaller x = Given.wideWithWool(10);
        x.hand(0, 10, 5);
        Given.tieMany(x, sing(x, UPTO, 0, 1), 9);
        due(x.hands(0, 2), 45);
        x.found(0, 0, 2);
        due(x.hands(0, 2), 25);
        x.found(0, 9, 2);
        due(x.hands(0, 2), 5);
        x.found(8, 0, 2);
        due(x.hands(0, 2), 0);
        x.found(8, 9, 2);
        due(x.hands(0, 2), 0);
        due(x.hands(0, 1), 4);
        KnotCaller y = Given.wideWithWool(10);
        y.hand(0, 10, 5);
        Given.tieMany(y, sing(y, UPTO, 0, 1), 4);
        y.found(0, 0, 2);
        due(y.hands(0, 2), 0);
        y.tie(0);
        due(y.hands(0, 2), 5);
    }

    @Says("A FAULT leads to its HAND")
    static void p20_faultsAtTheEdgeOfTwoStrips() {
        KnotCaller x = tied(10, 1);
        x.found(0, 7, 2);
        due(x.hands(0, 1), 1);
        due(x.hands(1, 1), 0);
        x.found(0, 8, 2);
        due(x.hands(0, 1), 1);
        due(x.hands(1, 1), 1);
        x.found(0, 7, 1);
        due(x.hands(0, 1), 0);
        due(x.hands(1, 1), 1);
    }

    // ---- 21: unlike

    @Says("How many places of two ROWS are unlike (as they are)")
    static void p21_noneAndAllPlaces() {
        KnotCaller x = Given.wideWithWool(40);
        int one = sing(x, UPTO, 0, 1);
        int two = sing(x, UPTO, 0, 2);
        x.tie(one);
        x.tie(one);
        x.tie(two);
        due(x.unlike(0, 0), 0);
        due(x.unlike(0, 1), 0);
        due(x.unlike(0, 2), 40);
        due(x.unlike(2, 1), 40);
        x.found(0, 0, 2);
        due(x.unlike(0, 1), 1);
        due(x.unlike(0, 2), 39);
        x.found(0, 39, 2);
        due(x.unlike(0, 1), 2);
    }

    @Says("row (other = -1): how many are unlike their mirrored places")
    static void p21_mirroredNoneAndAllPlaces() {
        KnotCaller x = Given.wideWithWool(4);
        x.tie(sing(x, SO, 1, 1, SO, 1, 2, TURN, 0, 0));
        x.tie(sing(x, SO, 2, 1, SO, 2, 2));
        due(x.unlike(0, -1), 0);
        due(x.unlike(1, -1), 4);
        x.found(0, 3, 5);
        due(x.unlike(0, -1), 2);
    }

    @Says("row (other = -1): how many are unlike their mirrored places")
    static void p21_thePlaceInTheMiddleIsItsOwnMirror() {
        KnotCaller x = Given.wideWithWool(5);
        x.tie(sing(x, SO, 2, 1, SO, 1, 3, SO, 2, 2));
        due(x.unlike(0, -1), 4);
        x.found(0, 2, 7);
        due(x.unlike(0, -1), 4);
    }

    @Says("row (other = -1): how many are unlike their mirrored places. -1.")
    static void p21_rowsThatThereAre() {
        KnotCaller x = tied(4, 0);
        due(x.unlike(0, 0), -1);
        due(x.unlike(0, -1), -1);
        x.tie(0);
        x.tie(0);
        due(x.unlike(-1, 0), -1);
        due(x.unlike(-1, -1), -1);
        due(x.unlike(0, -2), -1);
        due(x.unlike(0, 1), 0);
        due(x.unlike(0, 2), -1);
        due(x.unlike(2, 0), -1);
        due(x.unlike(2, -1), -1);
        due(x.unlike(LARGEST, 0), -1);
        due(x.unlike(0, LARGEST), -1);
        due(x.unlike(LEAST, 0), -1);
        due(x.unlike(0, LEAST), -1);
        x.cut();
        due(x.unlike(0, 1), -1);
    }
}
