/** Edges of promises 30 to 35: the shelves. */
final class ShelfEdges {
    private static final int NOTHING = 0;
    private static final int STEP = 1;
    private static final int BYTES = 3;
    private static final int SHORTS = 4;
    private static final int LARGEST = Integer.MAX_VALUE;
    private static final int LEAST = Integer.MIN_VALUE;
    private static final String NO_SHELF = "IllegalArgumentException";
    private static final String NO_ELEMENT = "IllegalStateException";

    private ShelfEdges() {
    }

    private static void due(long got, long want) {
        Checks.due(got, want);
    }

    private static void element(KnotCaller x, int d, int i, String want) {
        Checks.due(Checks.element(x, d, i), want);
    }

    /**
     * Four knots wide. Chant 0 closes with the colours 1 2 3 4, chant 1 has a step of each kind, chant 2 none;
     * two rows are tied from chant 0, with a change behind each knot: 4 minutes each.
     */
    private static KnotCaller made() {
        KnotCaller x = Given.wideWithWool(4);
        Given.sing(x, Given.SO, 1, 1, Given.SO, 1, 2, Given.SO, 1, 3, Given.SO, 1, 4);
        Given.sing(x, Given.SO, 40, 7, Given.UPTO, 0, 7, Given.TURN, 0, 0, Given.AGAIN, 9, 0, Given.SING, 0, 0,
                Given.LIKE, 9, 0);
        x.chant();
        x.tie(0);
        x.tie(0);
        return x;
    }

    // ---- 30: keep

    @Says("SHELVES 0 .. 7 each hold nothing (at first), a STEP, a ROW of bytes or shorts")
    static void p30_shelvesAre0To7() {
        KnotCaller x = made();
        int[] whats = {NOTHING, STEP, BYTES, SHORTS};
        for (int what : whats) {
            due(x.keep(-1, what, 0, 0), -1);
            due(x.keep(0, what, 0, 0), 0);
            due(x.keep(7, what, 0, 0), 0);
            due(x.keep(8, what, 0, 0), -1);
            due(x.keep(LARGEST, what, 0, 0), -1);
            due(x.keep(LEAST, what, 0, 0), -1);
        }
    }

    @Says("SHELF d gets: what = 0 nothing; 1 STEP n of CHANT k (as it is then); 3 a ROW of bytes")
    static void p30_whatIs0_1_3Or4() {
        KnotCaller x = made();
        int[] want = {-1, 0, 0, -1, 0, 0, -1};
        for (int what = -1; what <= 5; what++) {
            due(x.keep(0, what, 0, 0), want[what + 1]);
        }
        due(x.keep(0, LARGEST, 0, 0), -1);
        due(x.keep(0, LEAST, 0, 0), -1);
    }

    @Says("what = 0 nothing")
    static void p30_nothingInPlaceOfEachKind() {
        KnotCaller x = made();
        int[] whats = {NOTHING, STEP, BYTES, SHORTS};
        for (int what : whats) {
            x.keep(3, what, 0, 0);
            due(x.keep(3, NOTHING, LEAST, LARGEST), 0);
            due(x.weight(3), -11);
            due(x.toss(3), -11);
            due(x.copy(3, 0, 3, 0, 0), -11);
            element(x, 3, 0, NO_ELEMENT);
        }
    }

    @Says("1 STEP n of CHANT k (as it is then)")
    static void p30_chantsAndStepsThatThereAre() {
        KnotCaller x = made();
        due(x.keep(0, STEP, -1, 0), -1);
        due(x.keep(0, STEP, 3, 0), -1);
        due(x.keep(0, STEP, 12, 0), -1);
        due(x.keep(0, STEP, LARGEST, 0), -1);
        due(x.keep(0, STEP, LEAST, 0), -1);
        due(x.keep(0, STEP, 0, -1), -1);
        due(x.keep(0, STEP, 0, 4), -1);
        due(x.keep(0, STEP, 0, LARGEST), -1);
        due(x.keep(0, STEP, 0, LEAST), -1);
        due(x.keep(0, STEP, 2, 0), -1);
        due(x.weight(0), -11);
        due(x.keep(0, STEP, 0, 0), 0);
        due(x.weight(0), 12);
        due(x.keep(0, STEP, 0, 3), 0);
        due(x.weight(0), 15);
    }

    @Says("1 STEP n of CHANT k (as it is then)")
    static void p30_theTwelfthStepOfTheTwelfthChant() {
        KnotCaller x = Given.wide(4);
        for (int i = 0; i < 11; i++) {
            x.chant();
        }
        Given.singMany(x, 12, Given.SO, 5);
        due(x.keep(0, STEP, 11, 11), 0);
        due(x.toss(0), 5);
        due(x.keep(0, STEP, 11, 12), -1);
        due(x.keep(0, STEP, 12, 11), -1);
    }

    @Says("1 STEP n of CHANT k (as it is then)")
    static void p30_mendingTheChantLeavesTheShelf() {
        KnotCaller x = Given.wide(4);
        Given.sing(x, Given.SO, 3, 1);
        x.keep(0, STEP, 0, 0);
        due(x.mended(0), 4);
        due(x.toss(0), 3);
        due(x.told(0, 0, 1), 4);
    }

    @Says("3 a ROW of bytes: COLOURS of ROW k, as they are")
    static void p30_rowsThatThereAre() {
        KnotCaller x = made();
        due(x.keep(0, BYTES, -1, 0), -1);
        due(x.keep(0, BYTES, 2, 0), -1);
        due(x.keep(0, BYTES, 40, 0), -1);
        due(x.keep(0, BYTES, LARGEST, 0), -1);
        due(x.keep(0, BYTES, LEAST, 0), -1);
        due(x.keep(0, BYTES, 0, LEAST), 0);
        due(x.keep(0, BYTES, 1, LARGEST), 0);
        x.cut();
        due(x.keep(0, BYTES, 1, 0), -1);
        x.cut();
        due(x.keep(0, BYTES, 0, 0), -1);
        Checks.due(Given.elements(x, 0), "1 2 3 4");
    }

    @Says("3 a ROW of bytes: COLOURS of ROW k, as they are")
    static void p30_asWideAsTheCarpetWithFaults() {
        KnotCaller x = made();
        x.found(0, 0, 0);
        x.found(0, 3, 7);
        x.keep(0, BYTES, 0, 0);
        x.keep(1, BYTES, 1, 0);
        Checks.due(Given.elements(x, 0), "0 2 3 7");
        Checks.due(Given.elements(x, 1), "1 2 3 4");
        x.found(0, 1, 5);
        Checks.due(Given.elements(x, 0), "0 2 3 7");
        KnotCaller wide = Given.wideWithWool(40);
        wide.tie(Given.sing(wide, Given.UPTO, 0, 6));
        wide.keep(0, BYTES, 0, 0);
        element(wide, 0, 39, "6");
        element(wide, 0, 40, NO_ELEMENT);
    }

    @Says("4 a ROW of shorts: minutes, ROW by ROW: 0.")
    static void p30_minutesOfNoRowToForty() {
        KnotCaller x = Given.wideWithWool(4);
        due(x.keep(0, SHORTS, LEAST, LARGEST), 0);
        due(x.weight(0), -12);
        element(x, 0, 0, NO_ELEMENT);
        int plain = Given.sing(x, Given.UPTO, 0, 1);
        Given.tieMany(x, plain, 39);
        x.tie(Given.sing(x, Given.SO, 3, 1, Given.SO, 1, 2));
        due(x.keep(0, SHORTS, 0, 0), 0);
        element(x, 0, 0, "1");
        element(x, 0, 38, "1");
        element(x, 0, 39, "2");
        element(x, 0, 40, NO_ELEMENT);
        x.cut();
        element(x, 0, 39, "2");
        due(x.keep(0, SHORTS, 0, 0), 0);
        element(x, 0, 39, NO_ELEMENT);
    }

    @Says("4 a ROW of shorts: minutes, ROW by ROW: 0. -1.")
    static void p30_whatIsHeldGoesAndTheOtherShelvesStay() {
        KnotCaller x = made();
        x.keep(0, BYTES, 0, 0);
        x.keep(1, STEP, 0, 0);
        x.keep(2, SHORTS, 0, 0);
        due(x.keep(1, BYTES, 1, 0), 0);
        due(x.weight(1), -12);
        due(x.keep(2, STEP, 0, 1), 0);
        element(x, 2, 0, NO_ELEMENT);
        due(x.weight(2), 13);
        Checks.due(Given.elements(x, 0), "1 2 3 4");
        due(x.weight(3), -11);
    }

    // ---- 31: make

    @Says("(what 3, 4; n up to 60)")
    static void p31_nUpTo60() {
        KnotCaller x = made();
        for (int what = BYTES; what <= SHORTS; what++) {
            due(x.make(0, what, 60), 0);
            element(x, 0, 59, "0");
            element(x, 0, 60, NO_ELEMENT);
            due(x.make(0, what, 61), -1);
            due(x.make(0, what, LARGEST), -1);
            element(x, 0, 59, "0");
            due(x.make(0, what, 1), 0);
            Checks.due(Given.elements(x, 0), "0");
        }
    }

    @Says("SHELF d gets a ROW of n bytes, or shorts, 0")
    static void p31_aRowWithoutElements() {
        KnotCaller x = made();
        for (int what = BYTES; what <= SHORTS; what++) {
            due(x.make(0, what, 0), 0);
            element(x, 0, 0, NO_ELEMENT);
            due(x.weight(0), -12);
            due(x.copy(0, 0, 0, 0, 0), 0);
            due(x.copy(0, 0, 0, 0, 1), -13);
        }
    }

    @Says("-14: n is below 0.")
    static void p31_nBelow0() {
        KnotCaller x = made();
        x.keep(0, BYTES, 0, 0);
        due(x.make(0, BYTES, -1), -14);
        due(x.make(0, SHORTS, -1), -14);
        due(x.make(0, BYTES, LEAST), -14);
        Checks.due(Given.elements(x, 0), "1 2 3 4");
    }

    @Says("(what 3, 4; n up to 60)")
    static void p31_whatIs3Or4() {
        KnotCaller x = made();
        int[] others = {-1, 0, 1, 2, 5, LARGEST, LEAST};
        for (int what : others) {
            due(x.make(0, what, 5), -1);
        }
        due(x.weight(0), -11);
        due(x.make(0, BYTES, 5), 0);
        due(x.make(1, SHORTS, 5), 0);
        due(x.copy(0, 0, 1, 0, 1), -12);
    }

    @Says("-1; -14: n is below 0.")
    static void p31_shelvesAre0To7() {
        KnotCaller x = made();
        due(x.make(-1, BYTES, 5), -1);
        due(x.make(0, BYTES, 5), 0);
        due(x.make(7, BYTES, 5), 0);
        due(x.make(8, BYTES, 5), -1);
        due(x.make(LARGEST, BYTES, 5), -1);
        due(x.make(LEAST, BYTES, 5), -1);
    }

    @Says("-1; -14: n is below 0.")
    static void p31_minus1AheadOfMinus14() {
        KnotCaller x = made();
        due(x.make(-1, BYTES, -1), -1);
        due(x.make(8, BYTES, -1), -1);
        due(x.make(0, 2, -1), -1);
        due(x.make(0, 5, -1), -1);
    }

    @Says("SHELF d gets a ROW of n bytes, or shorts, 0")
    static void p31_allAre0WhereSomethingWasHeld() {
        KnotCaller x = made();
        x.keep(0, BYTES, 0, 0);
        due(x.make(0, BYTES, 4), 0);
        Checks.due(Given.elements(x, 0), "0 0 0 0");
        x.keep(0, SHORTS, 0, 0);
        due(x.make(0, SHORTS, 3), 0);
        Checks.due(Given.elements(x, 0), "0 0 0");
        x.keep(0, STEP, 0, 0);
        due(x.make(0, BYTES, 2), 0);
        Checks.due(Given.elements(x, 0), "0 0");
        due(x.toss(0), -12);
    }

    // ---- 32: element

    @Says("IllegalArgumentException: no such SHELF")
    static void p32_shelvesAre0To7() {
        KnotCaller x = made();
        x.make(0, BYTES, 1);
        x.make(7, BYTES, 1);
        element(x, -1, 0, NO_SHELF);
        element(x, 0, 0, "0");
        element(x, 7, 0, "0");
        element(x, 8, 0, NO_SHELF);
        element(x, LARGEST, 0, NO_SHELF);
        element(x, LEAST, 0, NO_SHELF);
    }

    @Says("IllegalStateException: nothing is held, it is no ROW, or has no such place.")
    static void p32_nothingIsHeld() {
        KnotCaller x = made();
        for (int d = 0; d < 8; d++) {
            element(x, d, 0, NO_ELEMENT);
            element(x, d, -1, NO_ELEMENT);
        }
    }

    @Says("IllegalStateException: nothing is held, it is no ROW, or has no such place.")
    static void p32_itIsNoRow() {
        KnotCaller x = made();
        x.keep(0, STEP, 0, 0);
        element(x, 0, 0, NO_ELEMENT);
        x.keep(1, BYTES, 0, 0);
        x.keep(1, STEP, 0, 0);
        element(x, 1, 0, NO_ELEMENT);
        element(x, 1, -1, NO_ELEMENT);
    }

    @Says("or has no such place")
    static void p32_placesFrom0ToTheLast() {
        KnotCaller x = made();
        x.keep(0, BYTES, 0, 0);
        element(x, 0, -1, NO_ELEMENT);
        element(x, 0, 0, "1");
        element(x, 0, 3, "4");
        element(x, 0, 4, NO_ELEMENT);
        element(x, 0, LARGEST, NO_ELEMENT);
        element(x, 0, LEAST, NO_ELEMENT);
        x.keep(1, SHORTS, 0, 0);
        element(x, 1, -1, NO_ELEMENT);
        element(x, 1, 0, "4");
        element(x, 1, 1, "4");
        element(x, 1, 2, NO_ELEMENT);
    }

    @Says("IllegalArgumentException: no such SHELF; IllegalStateException")
    static void p32_noSuchShelfAheadOfNoSuchPlace() {
        KnotCaller x = made();
        element(x, 8, -1, NO_SHELF);
        element(x, -1, 60, NO_SHELF);
    }

    // ---- 33: copy

    @Says("n elements of the ROW on SHELF d, from place i, come to the ROW on SHELF e, from place j")
    static void p33_wholeRowsAndNone() {
        KnotCaller x = made();
        x.keep(0, BYTES, 0, 0);
        x.make(1, BYTES, 4);
        due(x.copy(0, 0, 1, 0, 0), 0);
        Checks.due(Given.elements(x, 1), "0 0 0 0");
        due(x.copy(0, 0, 1, 0, 4), 4);
        Checks.due(Given.elements(x, 1), "1 2 3 4");
        due(x.copy(0, 3, 1, 0, 1), 1);
        due(x.copy(0, 0, 1, 3, 1), 1);
        Checks.due(Given.elements(x, 1), "4 2 3 1");
        Checks.due(Given.elements(x, 0), "1 2 3 4");
    }

    @Says("n elements of the ROW on SHELF d, from place i, come to the ROW on SHELF e, from place j")
    static void p33_sixtyElements() {
        KnotCaller x = made();
        x.make(0, SHORTS, 60);
        x.make(1, SHORTS, 60);
        x.keep(2, SHORTS, 0, 0);
        due(x.copy(2, 0, 0, 58, 2), 2);
        due(x.copy(0, 0, 1, 0, 60), 60);
        element(x, 1, 57, "0");
        element(x, 1, 58, "4");
        element(x, 1, 59, "4");
        due(x.copy(0, 0, 1, 0, 61), -13);
    }

    @Says("(as they all were before)")
    static void p33_withinOneRowForwardAndBackward() {
        KnotCaller x = made();
        x.keep(0, BYTES, 0, 0);
        due(x.copy(0, 0, 0, 1, 3), 3);
        Checks.due(Given.elements(x, 0), "1 1 2 3");
        due(x.copy(0, 1, 0, 0, 3), 3);
        Checks.due(Given.elements(x, 0), "1 2 3 3");
        due(x.copy(0, 0, 0, 0, 4), 4);
        Checks.due(Given.elements(x, 0), "1 2 3 3");
    }

    @Says("-1; -11: of either")
    static void p33_shelvesAre0To7() {
        KnotCaller x = made();
        x.make(0, BYTES, 1);
        x.make(7, BYTES, 1);
        int[] wrong = {-1, 8, LARGEST, LEAST};
        for (int d : wrong) {
            due(x.copy(d, 0, 0, 0, 1), -1);
            due(x.copy(0, 0, d, 0, 1), -1);
            due(x.copy(d, 0, d, 0, 1), -1);
        }
        due(x.copy(0, 0, 7, 0, 1), 1);
        due(x.copy(7, 0, 0, 0, 1), 1);
    }

    @Says("-11: of either")
    static void p33_nothingIsHeldOnEither() {
        KnotCaller x = made();
        x.make(0, BYTES, 1);
        due(x.copy(0, 0, 1, 0, 1), -11);
        due(x.copy(1, 0, 0, 0, 1), -11);
        due(x.copy(1, 0, 1, 0, 1), -11);
        due(x.copy(1, 0, 2, 0, 0), -11);
    }

    @Says("-12: one is no ROW, or they are not of one kind")
    static void p33_stepsAndUnlikeKinds() {
        KnotCaller x = made();
        x.make(0, BYTES, 1);
        x.make(1, SHORTS, 1);
        x.keep(2, STEP, 0, 0);
        x.keep(3, STEP, 0, 0);
        due(x.copy(0, 0, 1, 0, 1), -12);
        due(x.copy(1, 0, 0, 0, 1), -12);
        due(x.copy(0, 0, 2, 0, 1), -12);
        due(x.copy(2, 0, 0, 0, 1), -12);
        due(x.copy(1, 0, 2, 0, 1), -12);
        due(x.copy(2, 0, 1, 0, 1), -12);
        due(x.copy(2, 0, 3, 0, 1), -12);
        due(x.copy(2, 0, 2, 0, 0), -12);
    }

    @Says("-13: n, i or j is below 0, or beyond either's end.")
    static void p33_below0() {
        KnotCaller x = made();
        x.keep(0, BYTES, 0, 0);
        x.make(1, BYTES, 6);
        due(x.copy(0, 0, 1, 0, -1), -13);
        due(x.copy(0, -1, 1, 0, 1), -13);
        due(x.copy(0, 0, 1, -1, 1), -13);
        due(x.copy(0, -1, 1, 0, 0), -13);
        due(x.copy(0, 0, 1, -1, 0), -13);
        due(x.copy(0, 1, 1, 1, -1), -13);
        due(x.copy(0, LEAST, 1, LEAST, LEAST), -13);
        Checks.due(Given.elements(x, 1), "0 0 0 0 0 0");
    }

    @Says("-13: n, i or j is below 0, or beyond either's end.")
    static void p33_beyondEithersEndByOne() {
        KnotCaller x = made();
        x.keep(0, BYTES, 0, 0);
        x.make(1, BYTES, 6);
        due(x.copy(0, 0, 1, 0, 5), -13);
        due(x.copy(0, 1, 1, 0, 4), -13);
        due(x.copy(0, 4, 1, 0, 1), -13);
        due(x.copy(0, 0, 1, 3, 4), -13);
        due(x.copy(0, 0, 1, 6, 1), -13);
        due(x.copy(1, 0, 0, 0, 5), -13);
        due(x.copy(1, 0, 0, 1, 4), -13);
        Checks.due(Given.elements(x, 0), "1 2 3 4");
        Checks.due(Given.elements(x, 1), "0 0 0 0 0 0");
        due(x.copy(0, 0, 1, 2, 4), 4);
        Checks.due(Given.elements(x, 1), "0 0 1 2 3 4");
    }

    @Says("-13: n, i or j is below 0, or beyond either's end.")
    static void p33_noElementsAtTheEndAndBeyondIt() {
        KnotCaller x = made();
        x.keep(0, BYTES, 0, 0);
        x.make(1, BYTES, 6);
        due(x.copy(0, 4, 1, 6, 0), 0);
        due(x.copy(0, 5, 1, 6, 0), -13);
        due(x.copy(0, 4, 1, 7, 0), -13);
    }

    @Says("-13: n, i or j is below 0, or beyond either's end.")
    static void p33_numbersThatWouldWrapAround() {
        KnotCaller x = made();
        x.keep(0, BYTES, 0, 0);
        x.make(1, BYTES, 6);
        due(x.copy(0, LARGEST, 1, 0, 1), -13);
        due(x.copy(0, 0, 1, LARGEST, 1), -13);
        due(x.copy(0, 1, 1, 0, LARGEST), -13);
        due(x.copy(0, 0, 1, 1, LARGEST), -13);
        due(x.copy(0, LARGEST, 1, LARGEST, LARGEST), -13);
        due(x.copy(0, LARGEST, 1, 0, 0), -13);
    }

    @Says("-1; -11: of either; -12: one is no ROW, or they are not of one kind; -13")
    static void p33_refusalsInThisOrder() {
        KnotCaller x = made();
        x.make(0, BYTES, 1);
        x.make(1, SHORTS, 1);
        x.keep(2, STEP, 0, 0);
        due(x.copy(3, 0, 8, 0, -1), -1);
        due(x.copy(-1, 0, 3, 0, -1), -1);
        due(x.copy(2, 0, 8, 0, -1), -1);
        due(x.copy(2, 0, 3, 0, -1), -11);
        due(x.copy(3, 0, 2, 0, -1), -11);
        due(x.copy(0, 9, 3, 0, 1), -11);
        due(x.copy(0, 9, 1, 9, -1), -12);
        due(x.copy(2, 0, 0, -1, 1), -12);
        due(x.copy(0, 9, 0, 9, -1), -13);
    }

    // ---- 34: weight

    @Says("The WEIGHT of the STEP on SHELF d: 10 and its KIND; of SO, UPTO COLOUR more; of UPTO 100 more; "
            + "of TURN, AGAIN 1000 more; of AGAIN twice all that; of SO, AGAIN, SING, LIKE n more (ahead of twice).")
    static void p34_leastAndLargestOfEachKind() {
        KnotCaller x = made();
        int[] largest = {10 + 7 + 40, 11 + 7 + 100, 12 + 1000, 2 * (13 + 1000 + 9), 14, 15 + 9};
        for (int step = 0; step < 6; step++) {
            x.keep(step, STEP, 1, step);
            due(x.weight(step), largest[step]);
        }
        x.step(Given.SO, 1, 0);
        x.step(Given.UPTO, 40, 0);
        x.step(Given.TURN, 40, 7);
        x.step(Given.AGAIN, 1, 7);
        x.step(Given.SING, 1, 7);
        x.step(Given.LIKE, 1, 7);
        int[] least = {11, 111, 1012, 2 * (13 + 1000 + 1), 15, 16};
        for (int step = 0; step < 6; step++) {
            x.keep(step, STEP, 2, step);
            due(x.weight(step), least[step]);
        }
    }

    @Says("of SO, AGAIN, SING, LIKE n more (ahead of twice)")
    static void p34_singOfTheEleventhChant() {
        KnotCaller x = Given.wide(4);
        for (int i = 0; i < 12; i++) {
            x.chant();
        }
        x.step(Given.SING, 10, 0);
        x.keep(0, STEP, 11, 0);
        due(x.weight(0), 24);
    }

    @Says("-1, -11, -12.")
    static void p34_shelvesAre0To7() {
        KnotCaller x = made();
        x.keep(0, STEP, 0, 0);
        x.keep(7, STEP, 0, 0);
        due(x.weight(-1), -1);
        due(x.weight(0), 12);
        due(x.weight(7), 12);
        due(x.weight(8), -1);
        due(x.weight(LARGEST), -1);
        due(x.weight(LEAST), -1);
    }

    @Says("-1, -11, -12.")
    static void p34_nothingAndRows() {
        KnotCaller x = made();
        due(x.weight(0), -11);
        x.keep(0, BYTES, 0, 0);
        due(x.weight(0), -12);
        x.keep(0, SHORTS, 0, 0);
        due(x.weight(0), -12);
        x.make(0, BYTES, 0);
        due(x.weight(0), -12);
        x.make(0, SHORTS, 0);
        due(x.weight(0), -12);
    }

    // ---- 35: toss

    @Says("The FAILURE of the STEP on SHELF d is thrown, and caught: its n.")
    static void p35_leastAndLargestN() {
        KnotCaller x = made();
        int[] largest = {40, -15, -15, 9, 0, 9};
        for (int step = 0; step < 6; step++) {
            x.keep(step, STEP, 1, step);
            due(x.toss(step), largest[step]);
        }
        x.step(Given.SO, 1, 0);
        x.step(Given.AGAIN, 1, 7);
        x.step(Given.SING, 1, 7);
        x.step(Given.LIKE, 1, 7);
        for (int step = 0; step < 4; step++) {
            x.keep(step, STEP, 2, step);
            due(x.toss(step), 1);
            due(x.toss(step), 1);
        }
    }

    @Says("-15: those without n have none.")
    static void p35_uptoAndTurnHaveNone() {
        KnotCaller x = Given.wide(4);
        Given.sing(x, Given.UPTO, 5, 1, Given.TURN, 5, 1);
        x.keep(0, STEP, 0, 0);
        x.keep(1, STEP, 0, 1);
        due(x.toss(0), -15);
        due(x.toss(1), -15);
        due(x.weight(0), 112);
        due(x.weight(1), 1012);
    }

    @Says("-1, -11, -12; -15")
    static void p35_shelvesAre0To7() {
        KnotCaller x = made();
        x.keep(0, STEP, 0, 0);
        x.keep(7, STEP, 0, 0);
        due(x.toss(-1), -1);
        due(x.toss(0), 1);
        due(x.toss(7), 1);
        due(x.toss(8), -1);
        due(x.toss(LARGEST), -1);
        due(x.toss(LEAST), -1);
    }

    @Says("-1, -11, -12; -15")
    static void p35_nothingAndRows() {
        KnotCaller x = made();
        due(x.toss(0), -11);
        x.keep(0, BYTES, 0, 0);
        due(x.toss(0), -12);
        x.keep(0, SHORTS, 0, 0);
        due(x.toss(0), -12);
        x.make(0, BYTES, 0);
        due(x.toss(0), -12);
        x.make(0, SHORTS, 0);
        due(x.toss(0), -12);
    }
}
