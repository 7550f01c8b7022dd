/** Edges of promises 1 to 9: a new object, and the chants. */
final class ChantEdges {
    private static final int SO = Given.SO;
    private static final int UPTO = Given.UPTO;
    private static final int TURN = Given.TURN;
    private static final int AGAIN = Given.AGAIN;
    private static final int SING = Given.SING;
    private static final int LIKE = Given.LIKE;
    private static final int LARGEST = Integer.MAX_VALUE;
    private static final int LEAST = Integer.MIN_VALUE;

    private ChantEdges() {
    }

    private static void due(long got, long want) {
        Checks.due(got, want);
    }

    private static int sing(KnotCaller x, int... steps) {
        return Given.sing(x, steps);
    }

    /** An object with chants 0 .. number - 1, all without steps. */
    private static KnotCaller withChants(int number) {
        KnotCaller x = Given.wide(10);
        for (int i = 0; i < number; i++) {
            x.chant();
        }
        return x;
    }

    private static int wild(KnotCaller x) {
        return sing(x, SO, 40, 1, AGAIN, 4, 0, AGAIN, 4, 0, SO, 1, 1);
    }

    // ---- 1: A new object

    @Says("W is 4 + (width modulo 37, from 0)")
    static void p01_widthWithinOneRound() {
        due(new KnotCaller(0).count(4), 4);
        due(new KnotCaller(1).count(4), 5);
        due(new KnotCaller(35).count(4), 39);
        due(new KnotCaller(36).count(4), 40);
    }

    @Says("W is 4 + (width modulo 37, from 0)")
    static void p01_widthWrapsAroundAbove() {
        due(new KnotCaller(37).count(4), 4);
        due(new KnotCaller(38).count(4), 5);
        due(new KnotCaller(73).count(4), 40);
        due(new KnotCaller(74).count(4), 4);
        due(new KnotCaller(LARGEST).count(4), 4 + 21);
    }

    @Says("W is 4 + (width modulo 37, from 0)")
    static void p01_widthWrapsAroundBelow() {
        due(new KnotCaller(-1).count(4), 40);
        due(new KnotCaller(-36).count(4), 5);
        due(new KnotCaller(-37).count(4), 4);
        due(new KnotCaller(-38).count(4), 40);
        due(new KnotCaller(LEAST).count(4), 4 + 15);
    }

    @Says("No CHANTS")
    static void p01_noChants() {
        KnotCaller x = Given.wide(10);
        due(x.count(0), 0);
        due(x.length(0), -1);
        due(x.step(SO, 1, 1), -3);
    }

    @Says("each HAND has a STRIP of 8, a PACE of 5")
    static void p01_stripsAndPacesAreAsTold() {
        KnotCaller x = Given.wide(10);
        for (int hand = 0; hand < 6; hand++) {
            due(x.hand(hand, 8, 5), 0);
        }
        for (int hand = 0; hand < 6; hand++) {
            due(x.hand(hand, 9, 5), 1);
            due(x.hand(hand, 9, 6), 1);
        }
    }

    @Says("each HAND has a STRIP of 8, a PACE of 5")
    static void p01_stripsOf8AreTiedBy() {
        KnotCaller x = Given.wideWithWool(40);
        x.tie(sing(x, UPTO, 0, 1));
        for (int hand = 0; hand < 5; hand++) {
            due(x.look(0, 8 * hand, 0), hand);
            due(x.look(0, 8 * hand + 7, 0), hand);
        }
        due(x.hands(5, 0), 0);
    }

    @Says("no wool")
    static void p01_noWool() {
        KnotCaller x = Given.wide(4);
        for (int colour = 0; colour < 8; colour++) {
            due(x.wool(colour), 0);
            due(x.tie(sing(x, SO, 4, colour)), -5);
            due(x.dye(colour, 0, 1), 1);
        }
    }

    @Says("SHELVES 0 .. 7 each hold nothing (at first)")
    static void p01_shelvesHoldNothing() {
        KnotCaller x = Given.wide(10);
        for (int d = 0; d < 8; d++) {
            due(x.weight(d), -11);
            due(x.toss(d), -11);
            due(x.copy(d, 0, d, 0, 0), -11);
            Checks.due(Checks.element(x, d, 0), "IllegalStateException");
        }
    }

    @Says("rows come one on the other (40 at most)")
    static void p01_noRowsYet() {
        KnotCaller x = Given.wide(10);
        due(x.count(1), 0);
        due(x.count(2), 0);
        due(x.count(5), 0);
        due(x.cut(), -3);
        due(x.knot(0, 0), -1);
    }

    @Says("VILLAGES 0 .. 7 as they come")
    static void p01_noVillagesYet() {
        KnotCaller x = Given.wide(10);
        due(x.count(3), 0);
        due(x.tree(), -3);
    }

    // ---- 2: chant

    @Says("CHANTS 0 .. 11 as they come")
    static void p02_numbersFrom0To11() {
        KnotCaller x = Given.wide(10);
        for (int i = 0; i < 12; i++) {
            due(x.chant(), i);
        }
    }

    @Says("A CHANT comes, without STEPS: its number.")
    static void p02_withoutSteps() {
        KnotCaller x = Given.wide(10);
        sing(x, SO, 3, 1);
        due(x.chant(), 1);
        due(x.length(1), 0);
        due(x.told(1, 0, 0), -1);
        due(x.told(0, 0, 0), SO);
    }

    @Says("-2: there are 12.")
    static void p02_the13thIsRefused() {
        KnotCaller x = withChants(11);
        due(x.chant(), 11);
        due(x.chant(), -2);
        due(x.chant(), -2);
        due(x.count(0), 12);
        due(x.length(11), 0);
        due(x.length(12), -1);
    }

    // ---- 3: step

    @Says("0 SO n c: n knots (1 .. 40) of COLOUR c.")
    static void p03_nOfSoIs1To40() {
        KnotCaller x = withChants(1);
        due(x.step(SO, 0, 1), -1);
        due(x.step(SO, 1, 1), 0);
        due(x.step(SO, 40, 1), 1);
        due(x.step(SO, 41, 1), -1);
        due(x.step(SO, -1, 1), -1);
        due(x.step(SO, LARGEST, 1), -1);
        due(x.step(SO, LEAST, 1), -1);
        due(x.length(0), 41);
    }

    @Says("COLOURS 0 .. 7")
    static void p03_colourOfSoIs0To7() {
        KnotCaller x = withChants(1);
        due(x.step(SO, 1, -1), -1);
        due(x.step(SO, 1, 0), 0);
        due(x.step(SO, 1, 7), 1);
        due(x.step(SO, 1, 8), -1);
        due(x.step(SO, 1, LARGEST), -1);
        due(x.step(SO, 1, LEAST), -1);
        due(x.told(0, 0, 2), 0);
        due(x.told(0, 1, 2), 7);
        due(x.told(0, 2, 2), -1);
    }

    @Says("c: of SO, UPTO")
    static void p03_colourOfUptoIs0To7() {
        KnotCaller x = withChants(1);
        due(x.step(UPTO, 1, -1), -1);
        due(x.step(UPTO, 1, 0), 0);
        due(x.step(UPTO, 1, 7), 1);
        due(x.step(UPTO, 1, 8), -1);
        due(x.told(0, 0, 2), 0);
        due(x.told(0, 1, 2), 7);
    }

    @Says("all that it has so far n times more (1 .. 9)")
    static void p03_nOfAgainIs1To9() {
        KnotCaller x = withChants(1);
        due(x.step(AGAIN, 0, 0), -1);
        due(x.step(AGAIN, 1, 0), 0);
        due(x.step(AGAIN, 9, 0), 1);
        due(x.step(AGAIN, 10, 0), -1);
        due(x.step(AGAIN, -1, 0), -1);
        due(x.told(0, 0, 1), 1);
        due(x.told(0, 1, 1), 9);
    }

    @Says("r of LIKE (1 .. 9)")
    static void p03_rOfLikeIs1To9() {
        KnotCaller x = withChants(1);
        due(x.step(LIKE, 0, 0), -1);
        due(x.step(LIKE, 1, 0), 0);
        due(x.step(LIKE, 9, 0), 1);
        due(x.step(LIKE, 10, 0), -1);
        due(x.step(LIKE, -1, 0), -1);
        due(x.told(0, 0, 1), 1);
        due(x.told(0, 1, 1), 9);
    }

    @Says("KINDS of STEPS: 0 SO")
    static void p03_kindsAre0To5() {
        KnotCaller x = withChants(2);
        due(x.step(-1, 1, 1), -1);
        due(x.step(0, 1, 1), 0);
        due(x.step(5, 1, 1), 1);
        due(x.step(6, 1, 1), -1);
        due(x.step(LARGEST, 1, 1), -1);
        due(x.step(LEAST, 1, 1), -1);
        for (int kind = 0; kind < 6; kind++) {
            due(x.step(kind, kind == SING ? 0 : 1, 1), 2 + kind);
            due(x.told(1, 2 + kind, 0), kind);
        }
    }

    @Says("else any): its place.")
    static void p03_otherNumbersAreAny() {
        KnotCaller x = withChants(2);
        due(x.step(UPTO, 0, 1), 0);
        due(x.step(UPTO, LARGEST, 1), 1);
        due(x.step(TURN, LEAST, LARGEST), 2);
        due(x.step(TURN, -1, 8), 3);
        due(x.step(AGAIN, 1, -1), 4);
        due(x.step(AGAIN, 1, LARGEST), 5);
        due(x.step(SING, 0, -1), 6);
        due(x.step(SING, 0, LEAST), 7);
        due(x.step(LIKE, 1, 8), 8);
        due(x.step(LIKE, 1, LEAST), 9);
    }

    @Says("else any): its place.")
    static void p03_numbersThatAreAnyCallNothing() {
        KnotCaller x = Given.wide(10);
        sing(x, SO, 4, 6);
        sing(x, SO, 4, 6);
        Checks.due(Given.colours(x, sing(x, SO, 1, 1, SO, 1, 2, TURN, 1, 7, SO, 1, 3)), "12213");
        Checks.due(Given.colours(x, sing(x, SO, 1, 1, SO, 1, 2, TURN, LARGEST, -1, SO, 1, 3)), "12213");
        Checks.due(Given.colours(x, sing(x, SO, 1, 1, SO, 1, 2, AGAIN, 1, 7, SO, 1, 3)), "12123");
        Checks.due(Given.colours(x, sing(x, SO, 8, 1, UPTO, 1, 2, SO, 1, 3)), "11111111223");
        Checks.due(Given.colours(x, sing(x, SO, 8, 1, UPTO, LEAST, 2, SO, 1, 3)), "11111111223");
        Checks.due(Given.colours(x, sing(x, SO, 1, 1, SING, 0, 7, SO, 1, 3)), "166663");
        Checks.due(Given.colours(x, sing(x, SO, 8, 1, LIKE, 1, 7, SO, 1, 3)), "11111111003");
    }

    @Says("-1 (also SING of a CHANT that isn't earlier)")
    static void p03_singOfAnEarlierOneAlone() {
        KnotCaller x = withChants(3);
        due(x.step(SING, -1, 0), -1);
        due(x.step(SING, 0, 0), 0);
        due(x.step(SING, 1, 0), 1);
        due(x.step(SING, 2, 0), -1);
        due(x.step(SING, 3, 0), -1);
        due(x.step(SING, LARGEST, 0), -1);
        due(x.step(SING, LEAST, 0), -1);
        due(x.told(2, 2, 0), -1);
    }

    @Says("-1 (also SING of a CHANT that isn't earlier)")
    static void p03_theFirstChantSingsNone() {
        KnotCaller x = withChants(1);
        due(x.step(SING, 0, 0), -1);
        due(x.step(SING, -1, 0), -1);
    }

    @Says("SING k: the knots of CHANT k (an earlier one)")
    static void p03_theLastChantSingsThe11th() {
        KnotCaller x = withChants(12);
        due(x.step(SING, 11, 0), -1);
        due(x.step(SING, 12, 0), -1);
        due(x.step(SING, 10, 0), 0);
    }

    @Says("each a row of STEPS (12 at most)")
    static void p03_placesFrom0To11() {
        KnotCaller x = withChants(1);
        for (int i = 0; i < 12; i++) {
            due(x.step(SO, 1, 0), i);
        }
    }

    @Says("-2: there are 12")
    static void p03_the13thStepIsRefused() {
        KnotCaller x = withChants(1);
        for (int i = 0; i < 12; i++) {
            x.step(SO, 1, 0);
        }
        due(x.step(SO, 1, 0), -2);
        due(x.step(TURN, 0, 0), -2);
        due(x.length(0), 12);
        due(x.told(0, 11, 0), SO);
        due(x.told(0, 12, 0), -1);
    }

    @Says("A STEP of the latest CHANT")
    static void p03_anotherChantHasRoomAgain() {
        KnotCaller x = withChants(1);
        for (int i = 0; i < 12; i++) {
            x.step(SO, 1, 0);
        }
        x.chant();
        due(x.step(SO, 5, 0), 0);
        due(x.length(0), 12);
        due(x.length(1), 5);
    }

    @Says("-3: there is no CHANT.")
    static void p03_withoutAChant() {
        KnotCaller x = withChants(0);
        due(x.step(SO, 1, 1), -3);
        due(x.step(UPTO, 0, 1), -3);
        due(x.step(TURN, 0, 0), -3);
        due(x.step(AGAIN, 1, 0), -3);
        due(x.step(LIKE, 1, 0), -3);
        due(x.chant(), 0);
        due(x.step(SO, 1, 1), 0);
    }

    @Says("Answers of several refusals are the first one here: -1 no such thing")
    static void p03_minus1AheadOfMinus3() {
        KnotCaller x = withChants(0);
        due(x.step(6, 1, 1), -1);
        due(x.step(SO, 0, 1), -1);
        due(x.step(SO, 1, 8), -1);
        due(x.step(UPTO, 1, 8), -1);
        due(x.step(AGAIN, 10, 0), -1);
        due(x.step(LIKE, 0, 0), -1);
        due(x.step(SING, 0, 0), -1);
    }

    @Says("Answers of several refusals are the first one here: -1 no such thing")
    static void p03_minus1AheadOfMinus2() {
        KnotCaller x = withChants(2);
        for (int i = 0; i < 12; i++) {
            x.step(SO, 1, 0);
        }
        due(x.step(-1, 1, 1), -1);
        due(x.step(SO, 41, 1), -1);
        due(x.step(SO, 1, -1), -1);
        due(x.step(UPTO, 1, -1), -1);
        due(x.step(AGAIN, 0, 0), -1);
        due(x.step(LIKE, 10, 0), -1);
        due(x.step(SING, 1, 0), -1);
        due(x.step(SING, 0, 0), -2);
    }

    // ---- 4: length

    @Says("-1; -6: it is WILD.")
    static void p04_noSuchChant() {
        KnotCaller x = withChants(0);
        due(x.length(0), -1);
        x.chant();
        due(x.length(-1), -1);
        due(x.length(0), 0);
        due(x.length(1), -1);
        due(x.length(12), -1);
        due(x.length(LARGEST), -1);
        due(x.length(LEAST), -1);
    }

    @Says("How many knots a CHANT comes to (as it would be called now).")
    static void p04_withoutStepsItComesTo0() {
        due(withChants(1).length(0), 0);
    }

    @Says("How many knots a CHANT comes to (as it would be called now).")
    static void p04_asItWouldBeCalledNow() {
        KnotCaller x = Given.wide(10);
        int sung = sing(x, SO, 3, 1);
        int all = sing(x, SING, sung, 0);
        due(x.length(all), 3);
        due(x.mended(sung), 10);
        due(x.length(all), 10);
        due(x.step(SO, 1, 1), 1);
        due(x.length(all), 11);
    }

    @Says("knots of COLOUR c till there are WIDTH (none, if there are)")
    static void p04_uptoAtTheWidth() {
        KnotCaller x = Given.wide(10);
        due(x.length(sing(x, UPTO, 0, 1)), 10);
        due(x.length(sing(x, SO, 9, 1, UPTO, 0, 2)), 10);
        due(x.length(sing(x, SO, 10, 1, UPTO, 0, 2)), 10);
        due(x.length(sing(x, SO, 11, 1, UPTO, 0, 2)), 11);
        due(x.length(sing(x, UPTO, 0, 1, UPTO, 0, 2)), 10);
    }

    @Says("up to WIDTH (none, if there are so many)")
    static void p04_likeAtTheWidth() {
        KnotCaller x = Given.wide(10);
        due(x.length(sing(x, LIKE, 1, 0)), 10);
        due(x.length(sing(x, SO, 9, 1, LIKE, 1, 0)), 10);
        due(x.length(sing(x, SO, 10, 1, LIKE, 1, 0)), 10);
        due(x.length(sing(x, SO, 11, 1, LIKE, 9, 0)), 11);
        due(x.length(sing(x, LIKE, 1, 0, LIKE, 2, 0)), 10);
    }

    @Says("all that the CHANT has so far once more, backward")
    static void p04_turnOfNothing() {
        KnotCaller x = Given.wide(10);
        due(x.length(sing(x, TURN, 0, 0)), 0);
        due(x.length(sing(x, TURN, 0, 0, SO, 1, 1, TURN, 0, 0)), 2);
    }

    @Says("all that it has so far n times more (1 .. 9)")
    static void p04_againOnceAndNineTimes() {
        KnotCaller x = Given.wide(10);
        due(x.length(sing(x, AGAIN, 9, 0)), 0);
        due(x.length(sing(x, SO, 3, 1, AGAIN, 1, 0)), 6);
        due(x.length(sing(x, SO, 3, 1, AGAIN, 9, 0)), 30);
    }

    @Says("by SING with the WIDTH of the one that sings less the knots that has so far")
    static void p04_singOfNothing() {
        KnotCaller x = Given.wide(10);
        int nothing = sing(x);
        due(x.length(sing(x, SING, nothing, 0)), 0);
        due(x.length(sing(x, SO, 3, 1, SING, nothing, 0)), 3);
    }

    @Says("by SING with the WIDTH of the one that sings less the knots that has so far")
    static void p04_singWithWidthLeftNoneLeftAndLessThanNone() {
        KnotCaller x = Given.wide(10);
        int upto = sing(x, UPTO, 0, 1);
        int like = sing(x, LIKE, 1, 0);
        due(x.length(sing(x, SO, 9, 1, SING, upto, 0)), 10);
        due(x.length(sing(x, SO, 10, 1, SING, upto, 0)), 10);
        due(x.length(sing(x, SO, 11, 1, SING, upto, 0)), 11);
        due(x.length(sing(x, SO, 9, 1, SING, like, 0)), 10);
        due(x.length(sing(x, SO, 10, 1, SING, like, 0)), 10);
        due(x.length(sing(x, SO, 11, 1, SING, like, 0)), 11);
    }

    @Says("by SING with the WIDTH of the one that sings less the knots that has so far")
    static void p04_singWithinSingHasWhatIsLeftOfBoth() {
        KnotCaller x = Given.wide(10);
        int doubled = sing(x, UPTO, 0, 1, TURN, 0, 0);
        int inner = sing(x, SO, 3, 2, SING, doubled, 0);
        due(x.length(inner), 3 + 14);
        due(x.length(sing(x, SO, 2, 3, SING, inner, 0)), 2 + 3 + 10);
        due(x.length(sing(x, SO, 7, 3, SING, inner, 0)), 7 + 3);
        due(x.length(sing(x, SO, 9, 3, SING, inner, 0)), 9 + 3);
    }

    @Says("It is WILD, if there would be more than 1000 knots in all at any STEP")
    static void p04_1000KnotsAre_1001KnotsAreWild_bySo() {
        KnotCaller x = Given.wide(10);
        due(x.length(sing(x, SO, 40, 1, AGAIN, 4, 0, AGAIN, 4, 0)), 1000);
        due(x.length(sing(x, SO, 40, 1, AGAIN, 4, 0, AGAIN, 4, 0, SO, 1, 1)), -6);
        due(x.length(sing(x, SO, 37, 1, AGAIN, 8, 0, AGAIN, 2, 0, SO, 1, 1)), 1000);
        due(x.length(sing(x, SO, 37, 1, AGAIN, 8, 0, AGAIN, 2, 0, SO, 2, 1)), -6);
    }

    @Says("It is WILD, if there would be more than 1000 knots in all at any STEP")
    static void p04_1000KnotsAre_moreAreWild_byTurnAndAgain() {
        KnotCaller x = Given.wide(10);
        due(x.length(sing(x, SO, 25, 1, AGAIN, 9, 0, TURN, 0, 0, TURN, 0, 0)), 1000);
        due(x.length(sing(x, SO, 25, 1, AGAIN, 9, 0, TURN, 0, 0, SO, 1, 1, TURN, 0, 0)), -6);
        due(x.length(sing(x, SO, 25, 1, AGAIN, 9, 0, TURN, 0, 0, AGAIN, 1, 0)), 1000);
        due(x.length(sing(x, SO, 25, 1, AGAIN, 9, 0, TURN, 0, 0, SO, 1, 1, AGAIN, 1, 0)), -6);
        due(x.length(sing(x, SO, 10, 1, AGAIN, 9, 0, AGAIN, 9, 0)), 1000);
        due(x.length(sing(x, SO, 11, 1, AGAIN, 9, 0, AGAIN, 9, 0)), -6);
    }

    @Says("(of CHANTS that are sung, too)")
    static void p04_1000KnotsAre_1001KnotsAreWild_bySing() {
        KnotCaller x = Given.wide(10);
        int thousand = sing(x, SO, 40, 1, AGAIN, 4, 0, AGAIN, 4, 0);
        due(x.length(sing(x, SING, thousand, 0)), 1000);
        due(x.length(sing(x, SO, 1, 1, SING, thousand, 0)), -6);
        int more = sing(x, SO, 40, 1, AGAIN, 4, 0, AGAIN, 4, 0, SO, 1, 1);
        due(x.length(sing(x, SING, more, 0)), -6);
    }

    @Says("It is WILD, if there would be more than 1000 knots in all at any STEP")
    static void p04_1000KnotsAndStepsWithoutAny() {
        KnotCaller x = Given.wide(10);
        int nothing = sing(x);
        due(x.length(sing(x, SO, 40, 1, AGAIN, 4, 0, AGAIN, 4, 0, UPTO, 0, 1, LIKE, 1, 0, SING, nothing, 0)), 1000);
    }

    /** A chant of 11 steps that come, with those that are sung, to 1000; chant 0 has 12 steps. */
    private static int thousandSteps(KnotCaller x) {
        int twelve = Given.singMany(x, 12, TURN, 0);
        int five = Given.singMany(x, 5, TURN, 0);
        int many = Given.singMany(x, 12, SING, twelve);
        int all = Given.singMany(x, 6, SING, many);
        for (int i = 0; i < 4; i++) {
            x.step(SING, twelve, 0);
        }
        x.step(SING, five, 0);
        return all;
    }

    @Says("or if a STEP would begin behind 1000 that began since it was CALLED")
    static void p04_1000StepsAre_the1001stIsWild() {
        KnotCaller x = Given.wide(10);
        int all = thousandSteps(x);
        due(x.length(all), 0);
        due(x.step(SO, 1, 1), 11);
        due(x.length(all), -6);
    }

    @Says("(those of CHANTS that are sung count each time)")
    static void p04_the1001stStepWithinASungChant() {
        KnotCaller x = Given.wide(10);
        int twelve = Given.singMany(x, 12, TURN, 0);
        int six = Given.singMany(x, 6, TURN, 0);
        int many = Given.singMany(x, 12, SING, twelve);
        int all = Given.singMany(x, 6, SING, many);
        for (int i = 0; i < 4; i++) {
            x.step(SING, twelve, 0);
        }
        due(x.length(all), 0);
        x.step(SING, six, 0);
        due(x.length(all), -6);
    }

    @Says("or if a STEP would begin behind 1000 that began since it was CALLED")
    static void p04_stepsCountAnewWithEachCall() {
        KnotCaller x = Given.wide(10);
        int all = thousandSteps(x);
        due(x.length(all), 0);
        due(x.length(all), 0);
        due(x.closes(all), 0);
        due(x.length(0), 0);
        due(x.length(all), 0);
    }

    @Says("or if a STEP would begin behind 1000 that began since it was CALLED")
    static void p04_aThousandSungTwiceAreWild() {
        KnotCaller x = Given.wide(10);
        int all = thousandSteps(x);
        due(x.length(sing(x, SING, all, 0)), -6);
    }

    /** Chants that sing one another, each the one ahead of it, with the first one's steps: the twelfth's number. */
    private static int twelveWithinOneAnother(KnotCaller x, int... steps) {
        int latest = sing(x, steps);
        for (int i = 1; i < 12; i++) {
            latest = sing(x, SING, latest, 0);
        }
        return latest;
    }

    @Says("SING k: the knots of CHANT k (an earlier one)")
    static void p04_twelveChantsWithinOneAnother() {
        KnotCaller x = Given.wide(10);
        int latest = twelveWithinOneAnother(x, SO, 3, 1, UPTO, 0, 2);
        due(latest, 11);
        due(x.length(latest), 10);
    }

    // ---- 5: colour

    @Says("-1; -6; -4: it has no such place.")
    static void p05_placesFrom0ToTheLast() {
        KnotCaller x = Given.wide(10);
        int chant = sing(x, SO, 1, 3, SO, 2, 4, SO, 1, 5);
        due(x.colour(chant, -1), -4);
        due(x.colour(chant, 0), 3);
        due(x.colour(chant, 1), 4);
        due(x.colour(chant, 2), 4);
        due(x.colour(chant, 3), 5);
        due(x.colour(chant, 4), -4);
        due(x.colour(chant, LARGEST), -4);
        due(x.colour(chant, LEAST), -4);
    }

    @Says("-4: it has no such place.")
    static void p05_withoutKnotsItHasNoPlace() {
        KnotCaller x = withChants(1);
        due(x.colour(0, 0), -4);
        x.step(TURN, 0, 0);
        due(x.colour(0, 0), -4);
    }

    @Says("The COLOUR at place i of a CALL of it.")
    static void p05_placesBeyondTheWidth() {
        KnotCaller x = Given.wide(4);
        int chant = sing(x, SO, 39, 1, SO, 1, 2, AGAIN, 4, 0, AGAIN, 4, 0);
        due(x.colour(chant, 4), 1);
        due(x.colour(chant, 39), 2);
        due(x.colour(chant, 999), 2);
        due(x.colour(chant, 1000), -4);
    }

    @Says("The COLOUR at place i of a CALL of it.")
    static void p05_leastAndLargestColour() {
        KnotCaller x = Given.wide(10);
        Checks.due(Given.colours(x, sing(x, SO, 1, 0, SO, 1, 7, TURN, 0, 0, UPTO, 0, 7)), "0770777777");
    }

    @Says("-1; -6; -4: it has no such place.")
    static void p05_noSuchChantAheadOfNoSuchPlace() {
        KnotCaller x = withChants(1);
        due(x.colour(-1, 0), -1);
        due(x.colour(1, 0), -1);
        due(x.colour(1, -1), -1);
        due(x.colour(12, 1000), -1);
    }

    @Says("-1; -6; -4: it has no such place.")
    static void p05_wildAheadOfNoSuchPlace() {
        KnotCaller x = Given.wide(10);
        int wild = wild(x);
        due(x.colour(wild, 0), -6);
        due(x.colour(wild, 999), -6);
        due(x.colour(wild, -1), -6);
        due(x.colour(wild, 1001), -6);
    }

    @Says("SING k: the knots of CHANT k (an earlier one)")
    static void p05_twelveChantsWithinOneAnother() {
        KnotCaller x = Given.wide(10);
        Checks.due(Given.colours(x, twelveWithinOneAnother(x, SO, 3, 1, UPTO, 0, 2)), "1112222222");
    }

    @Says("knots of COLOUR c till there are WIDTH (none, if there are)")
    static void p05_whatComesBehindAnUpto() {
        KnotCaller x = Given.wide(4);
        Checks.due(Given.colours(x, sing(x, SO, 3, 1, UPTO, 0, 2, SO, 2, 3)), "111233");
        Checks.due(Given.colours(x, sing(x, SO, 4, 1, UPTO, 0, 2, SO, 2, 3)), "111133");
        Checks.due(Given.colours(x, sing(x, SO, 5, 1, UPTO, 0, 2, SO, 2, 3)), "1111133");
    }

    @Says("up to WIDTH (none, if there are so many)")
    static void p05_whatComesBehindALike() {
        KnotCaller x = Given.wideWithWool(4);
        x.tie(sing(x, SO, 2, 6, SO, 2, 7));
        Checks.due(Given.colours(x, sing(x, SO, 3, 1, LIKE, 1, 0, SO, 2, 3)), "111733");
        Checks.due(Given.colours(x, sing(x, SO, 4, 1, LIKE, 1, 0, SO, 2, 3)), "111133");
        Checks.due(Given.colours(x, sing(x, SO, 5, 1, LIKE, 1, 0, SO, 2, 3)), "1111133");
        Checks.due(Given.colours(x, sing(x, SO, 3, 1, LIKE, 2, 0, SO, 2, 3)), "111033");
    }

    @Says("by SING with the WIDTH of the one that sings less the knots that has so far")
    static void p05_whatComesBehindASungUpto() {
        KnotCaller x = Given.wide(4);
        int upto = sing(x, UPTO, 0, 2);
        Checks.due(Given.colours(x, sing(x, SO, 3, 1, SING, upto, 0, SO, 2, 3)), "111233");
        Checks.due(Given.colours(x, sing(x, SO, 4, 1, SING, upto, 0, SO, 2, 3)), "111133");
        Checks.due(Given.colours(x, sing(x, SO, 5, 1, SING, upto, 0, SO, 2, 3)), "1111133");
        int inner = sing(x, SO, 1, 5, SING, upto, 0);
        Checks.due(Given.colours(x, sing(x, SO, 2, 1, SING, inner, 0, SO, 2, 3)), "115233");
        Checks.due(Given.colours(x, sing(x, SO, 3, 1, SING, inner, 0, SO, 2, 3)), "111533");
        Checks.due(Given.colours(x, sing(x, SO, 4, 1, SING, inner, 0, SO, 2, 3)), "1111533");
    }

    @Says("its places count from 0 (where it begins)")
    static void p05_aSungChantTurnsItsOwnKnotsAlone() {
        KnotCaller x = Given.wide(10);
        int turned = sing(x, SO, 1, 1, SO, 1, 2, TURN, 0, 0);
        int again = sing(x, SO, 1, 3, SO, 1, 4, AGAIN, 1, 0);
        Checks.due(Given.colours(x, sing(x, SO, 1, 7, SING, turned, 0, SING, again, 0)), "712213434");
    }

    @Says("(1: the latest ROW; 0 where there is no such ROW, place)")
    static void p05_likeOfTheLatestRowAndOfNone() {
        KnotCaller x = Given.wideWithWool(4);
        int first = sing(x, LIKE, 1, 0);
        int second = sing(x, LIKE, 2, 0);
        Checks.due(Given.colours(x, first), "0000");
        x.tie(sing(x, SO, 2, 3, SO, 2, 4));
        Checks.due(Given.colours(x, first), "3344");
        Checks.due(Given.colours(x, second), "0000");
        x.tie(sing(x, SO, 3, 5, SO, 1, 6));
        Checks.due(Given.colours(x, first), "5556");
        Checks.due(Given.colours(x, second), "3344");
        x.cut();
        Checks.due(Given.colours(x, first), "3344");
        Checks.due(Given.colours(x, second), "0000");
    }

    @Says("(1: the latest ROW; 0 where there is no such ROW, place)")
    static void p05_likeOfTheNinthRowBelow() {
        KnotCaller x = Given.wideWithWool(4);
        int ninth = sing(x, LIKE, 9, 0);
        int one = sing(x, UPTO, 0, 1);
        x.tie(sing(x, UPTO, 0, 7));
        Given.tieMany(x, one, 7);
        Checks.due(Given.colours(x, ninth), "0000");
        x.tie(one);
        Checks.due(Given.colours(x, ninth), "7777");
        x.tie(one);
        Checks.due(Given.colours(x, ninth), "1111");
    }

    @Says("(1: the latest ROW; 0 where there is no such ROW, place)")
    static void p05_likeBelowTheFortiethRow() {
        KnotCaller x = Given.wideWithWool(4);
        int latest = sing(x, LIKE, 1, 0);
        Given.tieMany(x, sing(x, UPTO, 0, 1), 39);
        x.tie(sing(x, UPTO, 0, 6));
        due(x.count(1), 40);
        Checks.due(Given.colours(x, latest), "6666");
    }

    @Says("for each place from the one that is next up to WIDTH")
    static void p05_likeFromThePlaceThatIsNext() {
        KnotCaller x = Given.wideWithWool(4);
        x.tie(sing(x, SO, 1, 1, SO, 1, 2, SO, 1, 3, SO, 1, 4));
        int three = sing(x, SO, 3, 7, LIKE, 1, 0);
        Checks.due(Given.colours(x, three), "7774");
        Checks.due(Given.colours(x, sing(x, SO, 4, 7, LIKE, 1, 0)), "7777");
        int inner = sing(x, SO, 1, 6, LIKE, 1, 0);
        Checks.due(Given.colours(x, sing(x, SO, 1, 7, SING, inner, 0)), "7623");
    }

    @Says("the COLOUR as it is of that place in the r-th ROW below")
    static void p05_likeOfAFault() {
        KnotCaller x = Given.wideWithWool(4);
        int like = sing(x, LIKE, 1, 0);
        x.tie(sing(x, UPTO, 0, 1));
        x.found(0, 0, 7);
        x.found(0, 3, 0);
        Checks.due(Given.colours(x, like), "7110");
    }

    // ---- 6: closes

    @Says("It CLOSES, if it comes to W knots, CALLED for a ROW.")
    static void p06_oneKnotLessAndOneMore() {
        KnotCaller x = Given.wide(10);
        due(x.closes(sing(x, SO, 9, 1)), 0);
        due(x.closes(sing(x, SO, 10, 1)), 1);
        due(x.closes(sing(x, SO, 11, 1)), 0);
    }

    @Says("It CLOSES, if it comes to W knots, CALLED for a ROW.")
    static void p06_narrowestAndWidest() {
        KnotCaller x = Given.wide(4);
        due(x.closes(sing(x, SO, 3, 1)), 0);
        due(x.closes(sing(x, SO, 4, 1)), 1);
        due(x.closes(sing(x, SO, 5, 1)), 0);
        KnotCaller y = Given.wide(40);
        due(y.closes(sing(y, SO, 39, 1)), 0);
        due(y.closes(sing(y, SO, 40, 1)), 1);
        due(y.closes(sing(y, SO, 40, 1, SO, 1, 1)), 0);
    }

    @Says("Whether it CLOSES: 1, 0.")
    static void p06_withoutStepsItDoesNot() {
        due(withChants(1).closes(0), 0);
    }

    @Says("Whether it CLOSES: 1, 0.")
    static void p06_1000KnotsDoNotAndAreNotWild() {
        KnotCaller x = Given.wide(10);
        due(x.closes(sing(x, SO, 40, 1, AGAIN, 4, 0, AGAIN, 4, 0)), 0);
    }

    @Says("-1; -6.")
    static void p06_noSuchChant() {
        KnotCaller x = withChants(0);
        due(x.closes(0), -1);
        x.chant();
        due(x.closes(-1), -1);
        due(x.closes(1), -1);
        due(x.closes(LARGEST), -1);
        due(x.closes(LEAST), -1);
    }

    @Says("-1; -6.")
    static void p06_wild() {
        KnotCaller x = Given.wide(10);
        due(x.closes(wild(x)), -6);
        due(x.step(SO, 1, 1), 4);
        due(x.closes(0), -6);
    }

    // ---- 7: mend

    @Says("the STEP (what = 0), its n then (1)")
    static void p07_whatIs0Or1() {
        KnotCaller x = Given.wide(10);
        int chant = sing(x, SO, 9, 1);
        due(x.mend(chant, -1), -1);
        due(x.mend(chant, 0), 0);
        due(x.mend(chant, 1), 10);
        due(x.mend(chant, 2), -1);
        due(x.mend(chant, LARGEST), -1);
        due(x.mend(chant, LEAST), -1);
    }

    @Says("were another one (1 .. 40)")
    static void p07_nDownTo1AndNotTo0() {
        KnotCaller x = Given.wide(4);
        due(x.mend(sing(x, SO, 2, 1, SO, 3, 2), 1), 1);
        due(x.mend(sing(x, SO, 1, 1, SO, 4, 2), 0), 1);
        due(x.mend(sing(x, SO, 40, 1, SO, 3, 2), 1), 1);
        due(x.mend(sing(x, SO, 1, 1, UPTO, 0, 1, SO, 1, 2), 0), -4);
        due(x.mend(sing(x, SO, 1, 1, SO, 1, 1, SO, 1, 1, SO, 1, 1, SO, 1, 1), 0), -4);
        due(x.mend(sing(x, SO, 2, 1, SO, 4, 2), 0), 1);
        due(x.mend(sing(x, SO, 5, 1, SO, 5, 2), 0), -4);
    }

    @Says("were another one (1 .. 40)")
    static void p07_nUpTo40() {
        KnotCaller x = Given.wide(40);
        due(x.mend(sing(x, SO, 1, 1), 1), 40);
        due(x.mend(sing(x, SO, 39, 1), 1), 40);
        due(x.mend(sing(x, SO, 1, 1, SO, 1, 1), 1), 39);
        due(x.mend(sing(x, SO, 40, 1, SO, 39, 1), 1), 1);
        due(x.mend(sing(x, SO, 40, 1, SO, 40, 1), 1), -4);
    }

    @Says("that with the least change, of like ones the first STEP")
    static void p07_ofLikeChangesTheFirstStep() {
        KnotCaller x = Given.wide(10);
        due(x.mend(sing(x, SO, 3, 1, SO, 3, 2, SO, 3, 3), 0), 0);
        due(x.mend(sing(x, SO, 1, 1, SO, 6, 2, SO, 6, 3), 0), 1);
        due(x.mend(sing(x, UPTO, 0, 1, SO, 6, 2), 0), -4);
    }

    @Says("that with the least change, of like ones the first STEP")
    static void p07_ofUnlikeChangesTheLeast() {
        KnotCaller x = Given.wide(10);
        // step 0 counts twice: 3 and 4 are both one too many or too few by a half; the last one is mended
        int odd = sing(x, SO, 3, 1, TURN, 0, 0, SO, 1, 2);
        due(x.mend(odd, 0), 2);
        due(x.mend(odd, 1), 4);
        int even = sing(x, SO, 3, 1, TURN, 0, 0, SO, 2, 2);
        due(x.mend(even, 0), 0);
        due(x.mend(even, 1), 4);
        // of many that would close by UPTO the nearest
        int filled = sing(x, SO, 13, 1, UPTO, 0, 2);
        due(x.mend(filled, 1), 10);
    }

    @Says("if the n of one SO (not UPTO) of its own STEPS were another one")
    static void p07_noSoOfItsOwn() {
        KnotCaller x = Given.wide(10);
        int nine = sing(x, SO, 9, 1);
        due(x.mend(sing(x, SING, nine, 0), 0), -4);
        due(x.mend(sing(x, UPTO, 0, 1, TURN, 0, 0), 0), -4);
        due(x.mend(sing(x, LIKE, 2, 0, AGAIN, 1, 0), 0), -4);
        due(x.mend(sing(x, UPTO, 0, 1, AGAIN, 1, 0), 1), -4);
    }

    @Says("-4: it CLOSES, or can't be mended so.")
    static void p07_itClosesOrHasNoSteps() {
        KnotCaller x = Given.wide(10);
        int whole = sing(x, SO, 10, 1);
        due(x.mend(whole, 0), -4);
        due(x.mend(whole, 1), -4);
        int nothing = sing(x);
        due(x.mend(nothing, 0), -4);
        due(x.mend(nothing, 1), -4);
    }

    @Says("-1; -6.")
    static void p07_noSuchChant() {
        KnotCaller x = withChants(0);
        due(x.mend(0, 0), -1);
        x.chant();
        due(x.mend(-1, 0), -1);
        due(x.mend(1, 0), -1);
        due(x.mend(1, 1), -1);
        due(x.mend(LARGEST, 0), -1);
        due(x.mend(LEAST, 0), -1);
    }

    @Says("-1; -6.")
    static void p07_wildEvenIfAnotherNWouldClose() {
        KnotCaller x = Given.wide(40);
        int wild = sing(x, SO, 11, 1, AGAIN, 9, 0, AGAIN, 9, 0);
        due(x.mend(wild, 0), -6);
        due(x.mend(wild, 1), -6);
        int tamed = sing(x, SO, 40, 1, SO, 1, 1, TURN, 0, 0, AGAIN, 9, 0, TURN, 0, 0);
        due(x.mend(tamed, 0), -6);
        due(x.mend(wild(x), 0), -6);
    }

    @Says("-1; -6.")
    static void p07_minus1AheadOfMinus4AndMinus6() {
        KnotCaller x = Given.wide(10);
        int whole = sing(x, SO, 10, 1);
        int wild = wild(x);
        due(x.mend(whole, 2), -1);
        due(x.mend(whole, -1), -1);
        due(x.mend(wild, 2), -1);
        due(x.mend(wild, -1), -1);
    }

    @Says("a CHANT that doesn't CLOSE, but would if")
    static void p07_asTheSungChantIsNow() {
        KnotCaller x = Given.wide(10);
        int sung = sing(x, SO, 2, 1, SO, 2, 1);
        int all = sing(x, SING, sung, 0, SO, 1, 2);
        due(x.mend(all, 1), 6);
        due(x.mended(sung), 10);
        due(x.mend(all, 1), -4);
    }

    // ---- 8: mended

    @Says("MENDED LEAST it is from now on: how many it comes to.")
    static void p08_itComesToWFromNowOn() {
        KnotCaller x = Given.wide(4);
        int least = sing(x, SO, 5, 1);
        due(x.mended(least), 4);
        due(x.length(least), 4);
        due(x.closes(least), 1);
        KnotCaller y = Given.wide(40);
        int most = sing(y, SO, 1, 1);
        due(y.mended(most), 40);
        due(y.told(most, 0, 1), 40);
    }

    @Says("MENDED LEAST it is from now on: how many it comes to.")
    static void p08_asMendTold() {
        KnotCaller x = Given.wide(10);
        int chant = sing(x, SO, 3, 1, TURN, 0, 0, SO, 7, 2, SO, 1, 3);
        due(x.mend(chant, 0), 0);
        due(x.mend(chant, 1), 1);
        due(x.told(chant, 0, 1), 3);
        due(x.mended(chant), 10);
        due(x.told(chant, 0, 1), 1);
        due(x.told(chant, 2, 1), 7);
        due(x.told(chant, 3, 1), 1);
    }

    @Says("-4, -6 likewise.")
    static void p08_mendedOnceItCloses() {
        KnotCaller x = Given.wide(10);
        int chant = sing(x, SO, 9, 1);
        due(x.mended(chant), 10);
        due(x.mended(chant), -4);
        due(x.told(chant, 0, 1), 10);
    }

    @Says("-4, -6 likewise.")
    static void p08_cannotBeMendedSo() {
        KnotCaller x = Given.wide(10);
        due(x.mended(sing(x)), -4);
        due(x.mended(sing(x, TURN, 0, 0)), -4);
        due(x.mended(sing(x, UPTO, 0, 1, TURN, 0, 0)), -4);
        int tooMany = sing(x, SO, 11, 1, SO, 10, 2);
        due(x.mended(tooMany), -4);
        due(x.told(tooMany, 0, 1), 11);
        due(x.told(tooMany, 1, 1), 10);
    }

    @Says("-4, -6 likewise.")
    static void p08_wild() {
        KnotCaller x = Given.wide(10);
        int wild = wild(x);
        due(x.mended(wild), -6);
        due(x.told(wild, 0, 1), 40);
        due(x.told(wild, 3, 1), 1);
    }

    @Says("-1; -4, -6 likewise.")
    static void p08_noSuchChant() {
        KnotCaller x = withChants(0);
        due(x.mended(0), -1);
        x.chant();
        due(x.mended(-1), -1);
        due(x.mended(1), -1);
        due(x.mended(LARGEST), -1);
        due(x.mended(LEAST), -1);
    }

    // ---- 9: told

    @Says("Of a STEP of a CHANT: 0 KIND, 1 n")
    static void p09_whatIs0To3() {
        KnotCaller x = Given.wide(10);
        sing(x, SO, 40, 7);
        due(x.told(0, 0, -1), -1);
        due(x.told(0, 0, 0), 0);
        due(x.told(0, 0, 1), 40);
        due(x.told(0, 0, 2), 7);
        due(x.told(0, 0, 3), 40);
        due(x.told(0, 0, 4), -1);
        due(x.told(0, 0, LARGEST), -1);
        due(x.told(0, 0, LEAST), -1);
    }

    @Says("1 n (of SO, AGAIN, SING, LIKE; -2)")
    static void p09_uptoAndTurnHaveNoN() {
        KnotCaller x = withChants(1);
        sing(x, SO, 1, 1, UPTO, 5, 1, TURN, 5, 1, AGAIN, 9, 1, SING, 0, 1, LIKE, 9, 1);
        int[] want = {1, -2, -2, 9, 0, 9};
        for (int step = 0; step < 6; step++) {
            due(x.told(1, step, 1), want[step]);
        }
    }

    @Says("2 COLOUR (-2)")
    static void p09_soAndUptoAloneHaveAColour() {
        KnotCaller x = withChants(1);
        sing(x, SO, 1, 0, UPTO, 5, 7, TURN, 5, 1, AGAIN, 9, 1, SING, 0, 1, LIKE, 9, 1);
        int[] want = {0, 7, -2, -2, -2, -2};
        for (int step = 0; step < 6; step++) {
            due(x.told(1, step, 2), want[step]);
        }
    }

    @Says("3 how many knots there are at its end")
    static void p09_knotsAtTheEndFromNoneTo1000() {
        KnotCaller x = Given.wide(10);
        int nothing = sing(x);
        sing(x, TURN, 0, 0, SING, nothing, 0, SO, 40, 1, AGAIN, 4, 0, AGAIN, 4, 0, UPTO, 0, 1);
        int[] want = {0, 0, 40, 200, 1000, 1000};
        for (int step = 0; step < 6; step++) {
            due(x.told(1, step, 3), want[step]);
        }
    }

    @Says("3 how many knots there are at its end")
    static void p09_noKnotsInAllAreNotWild() {
        KnotCaller x = Given.wide(10);
        sing(x, TURN, 0, 0, AGAIN, 9, 0);
        due(x.told(0, 0, 3), 0);
        due(x.told(0, 1, 3), 0);
    }

    @Says("3 how many knots there are at its end")
    static void p09_endsOfItsOwnStepsNotOfTheSungOnes() {
        KnotCaller x = Given.wide(10);
        int sung = sing(x, SO, 3, 1, SO, 4, 1, SO, 1, 1);
        int all = sing(x, SO, 2, 1, SING, sung, 0, SING, sung, 0);
        due(x.told(all, 0, 3), 2);
        due(x.told(all, 1, 3), 10);
        due(x.told(all, 2, 3), 18);
        int first = sing(x, SING, sung, 0);
        due(x.told(first, 0, 3), 8);
    }

    @Says("-1; -6 (of 3: the CHANT is WILD).")
    static void p09_noSuchChant() {
        KnotCaller x = withChants(0);
        due(x.told(0, 0, 0), -1);
        sing(x, SO, 1, 1);
        due(x.told(-1, 0, 0), -1);
        due(x.told(0, 0, 1), 1);
        due(x.told(1, 0, 0), -1);
        due(x.told(12, 0, 0), -1);
        due(x.told(LARGEST, 0, 3), -1);
        due(x.told(LEAST, 0, 3), -1);
    }

    @Says("-1; -6 (of 3: the CHANT is WILD).")
    static void p09_stepsFrom0To11() {
        KnotCaller x = Given.wide(10);
        Given.singMany(x, 12, SO, 1);
        for (int what = 0; what < 4; what++) {
            due(x.told(0, -1, what), -1);
            due(x.told(0, 12, what), -1);
        }
        due(x.told(0, 0, 3), 1);
        due(x.told(0, 11, 3), 12);
        due(x.told(0, LARGEST, 0), -1);
        due(x.told(0, LEAST, 0), -1);
    }

    @Says("-1; -6 (of 3: the CHANT is WILD).")
    static void p09_aChantWithoutSteps() {
        KnotCaller x = withChants(1);
        for (int what = 0; what < 4; what++) {
            due(x.told(0, 0, what), -1);
        }
    }

    @Says("-6 (of 3: the CHANT is WILD)")
    static void p09_wildAtEachStepButOf3Alone() {
        KnotCaller x = Given.wide(10);
        int wild = wild(x);
        for (int step = 0; step < 4; step++) {
            due(x.told(wild, step, 3), -6);
        }
        due(x.told(wild, 0, 0), SO);
        due(x.told(wild, 0, 1), 40);
        due(x.told(wild, 0, 2), 1);
        due(x.told(wild, 1, 2), -2);
    }

    @Says("Answers of several refusals are the first one here: -1 no such thing")
    static void p09_minus1AheadOfMinus2AndMinus6() {
        KnotCaller x = Given.wide(10);
        int wild = wild(x);
        due(x.told(wild, 4, 3), -1);
        due(x.told(wild, -1, 3), -1);
        due(x.told(wild, 4, 2), -1);
        due(x.told(wild, 1, 4), -1);
    }
}
