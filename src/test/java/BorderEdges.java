/** Edges of promises 22 to 29: borders, villages and counts. */
final class BorderEdges {
    private static final int LARGEST = Integer.MAX_VALUE;
    private static final int LEAST = Integer.MIN_VALUE;

    private BorderEdges() {
    }

    private static void due(long got, long want) {
        Checks.due(got, want);
    }

    private static KnotCaller made() {
        return Given.wide(10);
    }

    private static KnotCaller withVillages(int... ways) {
        KnotCaller x = made();
        for (int each : ways) {
            x.village(each);
        }
        return x;
    }

    // ---- 22: side

    @Says("a side of n knots (1 .. 400)")
    static void p22_nIs1To400() {
        KnotCaller x = made();
        due(x.side(0, 1, 2), -1);
        due(x.side(1, 1, 2), 1000);
        due(x.side(400, 1, 2), 200);
        due(x.side(401, 1, 2), -1);
        due(x.side(-1, 1, 2), -1);
        due(x.side(LARGEST, 1, 2), -1);
        due(x.side(LEAST, 1, 2), -1);
    }

    @Says("units of a and b knots (1 .. 40 each; unlike)")
    static void p22_aIs1To40() {
        KnotCaller x = made();
        due(x.side(80, 0, 2), -1);
        due(x.side(80, 1, 2), 40);
        due(x.side(80, 40, 2), 2000);
        due(x.side(80, 41, 2), -1);
        due(x.side(80, -1, 2), -1);
        due(x.side(80, LARGEST, 2), -1);
        due(x.side(80, LEAST, 2), -1);
    }

    @Says("units of a and b knots (1 .. 40 each; unlike)")
    static void p22_bIs1To40() {
        KnotCaller x = made();
        due(x.side(80, 2, 0), -1);
        due(x.side(80, 2, 1), 40000);
        due(x.side(80, 2, 40), 2);
        due(x.side(80, 2, 41), -1);
        due(x.side(80, 2, -1), -1);
        due(x.side(80, 2, LARGEST), -1);
        due(x.side(80, 2, LEAST), -1);
    }

    @Says("units of a and b knots (1 .. 40 each; unlike)")
    static void p22_likeUnitsAreRefused() {
        KnotCaller x = made();
        due(x.side(80, 1, 1), -1);
        due(x.side(80, 40, 40), -1);
        due(x.side(80, 39, 40), 2);
        due(x.side(80, 40, 39), 2000);
    }

    @Says("so that just n come: the way with the fewest units")
    static void p22_oneUnitAloneAndNoneOfTheOther() {
        KnotCaller x = made();
        due(x.side(3, 3, 4), 1000);
        due(x.side(4, 3, 4), 1);
        due(x.side(7, 3, 4), 1001);
        due(x.side(12, 3, 4), 3);
        due(x.side(12, 4, 3), 3000);
        due(x.side(399, 1, 40), 39009);
        due(x.side(399, 40, 1), 9039);
    }

    @Says("-4: there is no way.")
    static void p22_noWay() {
        KnotCaller x = made();
        due(x.side(1, 2, 3), -4);
        due(x.side(2, 3, 4), -4);
        due(x.side(5, 3, 4), -4);
        due(x.side(6, 3, 4), 2000);
        due(x.side(399, 2, 40), -4);
        due(x.side(39, 40, 2), -4);
        due(x.side(400, 39, 37), -4);
    }

    @Says("-1; -4: there is no way.")
    static void p22_minus1AheadOfMinus4() {
        KnotCaller x = made();
        due(x.side(5, 4, 4), -1);
        due(x.side(401, 2, 4), -1);
        due(x.side(0, 3, 4), -1);
        due(x.side(5, 3, 41), -1);
    }

    // ---- 23: corner

    @Says("Whether the CORNER of a side of n and one of m meets: 1, 0.")
    static void p23_nAndMAre1To400() {
        KnotCaller x = made();
        due(x.corner(0, 1, 1, 2), -1);
        due(x.corner(1, 0, 1, 2), -1);
        due(x.corner(1, 1, 1, 2), 1);
        due(x.corner(400, 400, 1, 2), 1);
        due(x.corner(401, 400, 1, 2), -1);
        due(x.corner(400, 401, 1, 2), -1);
        due(x.corner(-1, 1, 1, 2), -1);
        due(x.corner(1, -1, 1, 2), -1);
        due(x.corner(LARGEST, 1, 1, 2), -1);
        due(x.corner(1, LEAST, 1, 2), -1);
    }

    @Says("units of a and b knots (1 .. 40 each; unlike)")
    static void p23_unitsAre1To40AndUnlike() {
        KnotCaller x = made();
        due(x.corner(40, 40, 0, 1), -1);
        due(x.corner(40, 40, 1, 0), -1);
        due(x.corner(40, 40, 1, 40), 1);
        due(x.corner(40, 40, 40, 1), 1);
        due(x.corner(40, 40, 41, 1), -1);
        due(x.corner(40, 40, 1, 41), -1);
        due(x.corner(40, 40, 1, 1), -1);
        due(x.corner(40, 40, 40, 40), -1);
    }

    @Says("sides begin with a's, if there are some, and end with b's, if there are some")
    static void p23_sidesOfOneUnitAloneAndOfBoth() {
        KnotCaller x = made();
        // by 3 and 4: 6 is aa, 7 is ab, 8 is bb
        int[][] want = {{6, 6, 1}, {6, 7, 1}, {6, 8, 0}, {7, 6, 0}, {7, 7, 0}, {7, 8, 1}, {8, 6, 0}, {8, 7, 0},
            {8, 8, 1}};
        for (int[] each : want) {
            due(x.corner(each[0], each[1], 3, 4), each[2]);
        }
    }

    @Says("the end of the first side is at the corner with the beginning of the second one")
    static void p23_theFirstSidesEndIsNotTheSecondsBeginning() {
        KnotCaller x = made();
        due(x.corner(7, 8, 3, 4), 1);
        due(x.corner(8, 7, 3, 4), 0);
        due(x.corner(7, 8, 4, 3), 0);
        due(x.corner(8, 7, 4, 3), 1);
    }

    @Says("-4: a side has no way.")
    static void p23_eitherSideHasNoWay() {
        KnotCaller x = made();
        due(x.corner(5, 6, 3, 4), -4);
        due(x.corner(6, 5, 3, 4), -4);
        due(x.corner(5, 5, 3, 4), -4);
        due(x.corner(6, 6, 3, 4), 1);
    }

    @Says("-1; -4: a side has no way.")
    static void p23_minus1AheadOfMinus4() {
        KnotCaller x = made();
        due(x.corner(5, 0, 3, 4), -1);
        due(x.corner(0, 5, 3, 4), -1);
        due(x.corner(5, 401, 3, 4), -1);
        due(x.corner(5, 5, 3, 3), -1);
        due(x.corner(5, 5, 3, 41), -1);
    }

    // ---- 24: fits

    @Says("The least n, from one on (400 at most), for which it would (both sides n)")
    static void p24_fromIs1To400() {
        KnotCaller x = made();
        due(x.fits(0, 1, 2), -1);
        due(x.fits(1, 1, 2), 1);
        due(x.fits(400, 1, 2), 400);
        due(x.fits(401, 1, 2), -1);
        due(x.fits(-1, 1, 2), -1);
        due(x.fits(LARGEST, 1, 2), -1);
        due(x.fits(LEAST, 1, 2), -1);
    }

    @Says("The least n, from one on (400 at most), for which it would (both sides n)")
    static void p24_fromItselfAndTheNextOne() {
        KnotCaller x = made();
        // by 3 and 4 both sides meet at 3, 4, 6, 8, 9, 12 ..
        due(x.fits(1, 3, 4), 3);
        due(x.fits(3, 3, 4), 3);
        due(x.fits(4, 3, 4), 4);
        due(x.fits(5, 3, 4), 6);
        due(x.fits(6, 3, 4), 6);
        due(x.fits(7, 3, 4), 8);
    }

    @Says("units of a and b knots (1 .. 40 each; unlike)")
    static void p24_unitsAre1To40AndUnlike() {
        KnotCaller x = made();
        due(x.fits(1, 0, 1), -1);
        due(x.fits(1, 1, 0), -1);
        due(x.fits(1, 40, 39), 39);
        due(x.fits(1, 39, 40), 39);
        due(x.fits(1, 41, 1), -1);
        due(x.fits(1, 1, 41), -1);
        due(x.fits(1, 7, 7), -1);
    }

    @Says("-4: there is none.")
    static void p24_noneUpTo400() {
        KnotCaller x = made();
        due(x.fits(390, 39, 38), 390);
        due(x.fits(391, 39, 38), -4);
        due(x.fits(400, 39, 38), -4);
        due(x.fits(400, 40, 39), 400);
        due(x.fits(400, 39, 40), 400);
    }

    @Says("-4: there is none. -1.")
    static void p24_minus1AheadOfMinus4() {
        KnotCaller x = made();
        due(x.fits(391, 39, 39), -1);
        due(x.fits(391, 39, 41), -1);
        due(x.fits(401, 39, 38), -1);
    }

    // ---- 25: village

    @Says("-1 (0 .. 255)")
    static void p25_waysAre0To255() {
        KnotCaller x = made();
        due(x.village(-1), -1);
        due(x.village(0), 0);
        due(x.village(255), 1);
        due(x.village(256), -1);
        due(x.village(LARGEST), -1);
        due(x.village(LEAST), -1);
        due(x.count(3), 2);
        due(x.tree(), 8);
    }

    @Says("VILLAGES 0 .. 7 as they come")
    static void p25_numbersFrom0To7() {
        KnotCaller x = made();
        for (int v = 0; v < 8; v++) {
            due(x.village(5), v);
            due(x.count(3), v + 1);
        }
    }

    @Says("-2: there are 8.")
    static void p25_theNinthIsRefused() {
        KnotCaller x = withVillages(0, 0, 0, 0, 0, 0, 0);
        due(x.village(1), 7);
        due(x.village(128), -2);
        due(x.count(3), 8);
        due(x.tree(), 1);
        due(x.link(7), -3);
    }

    @Says("-1 (0 .. 255); -2: there are 8.")
    static void p25_minus1AheadOfMinus2() {
        KnotCaller x = withVillages(0, 0, 0, 0, 0, 0, 0, 0);
        due(x.village(-1), -1);
        due(x.village(256), -1);
        due(x.village(255), -2);
    }

    // ---- 26: tree

    @Says("-3: there is no VILLAGE.")
    static void p26_noneAndOneVillage() {
        KnotCaller x = made();
        due(x.tree(), -3);
        x.village(255);
        due(x.tree(), 0);
    }

    @Says("APART are two by how many bits are unlike.")
    static void p26_apartByNoneToAllBits() {
        due(withVillages(170, 170).tree(), 0);
        due(withVillages(0, 1).tree(), 1);
        due(withVillages(0, 128).tree(), 1);
        due(withVillages(127, 128).tree(), 8);
        due(withVillages(0, 255).tree(), 8);
        due(withVillages(255, 0).tree(), 8);
    }

    @Says("all joined by as few bits as can be")
    static void p26_eightVillages() {
        due(withVillages(0, 0, 0, 0, 0, 0, 0, 0).tree(), 0);
        due(withVillages(0, 1, 3, 7, 15, 31, 63, 127).tree(), 7);
        due(withVillages(1, 2, 4, 8, 16, 32, 64, 128).tree(), 14);
        due(withVillages(0, 255, 15, 240, 51, 204, 85, 170).tree(), 28);
    }

    // ---- 27: link

    @Says("Link i of THE TREE, from 0, told as 10 * the lesser VILLAGE and the other one. -1; -3")
    static void p27_iBelow0() {
        KnotCaller x = made();
        due(x.link(-1), -1);
        x.village(1);
        x.village(2);
        due(x.link(-1), -1);
        due(x.link(LEAST), -1);
        due(x.link(0), 1);
    }

    @Says("-3: there are not so many.")
    static void p27_fromNoVillageToEight() {
        KnotCaller x = made();
        due(x.link(0), -3);
        x.village(9);
        due(x.link(0), -3);
        for (int v = 1; v < 8; v++) {
            x.village(9);
            due(x.link(v - 1), v);
            due(x.link(v), -3);
        }
        due(x.link(8), -3);
        due(x.link(LARGEST), -3);
    }

    @Says("told as 10 * the lesser VILLAGE and the other one")
    static void p27_theLargestNumbers() {
        KnotCaller x = withVillages(0, 1, 3, 7, 15, 31, 63, 127);
        due(x.link(0), 1);
        due(x.link(6), 67);
        due(x.link(7), -3);
    }

    @Says("the links are taken by APART, then the lesser VILLAGE, then the other one, if they join what isn't joined")
    static void p27_ofLikeLinksTheLesserVillageThenTheOther() {
        KnotCaller x = withVillages(0, 3, 5, 6);
        // all are 2 apart
        due(x.link(0), 1);
        due(x.link(1), 2);
        due(x.link(2), 3);
        KnotCaller y = withVillages(0, 15, 14, 1);
        // 1-2 and 0-3 by one bit, then 0-2 and 1-3 by three
        due(y.link(0), 3);
        due(y.link(1), 12);
        due(y.link(2), 2);
        due(y.link(3), -3);
    }

    @Says("the links are taken by APART, then the lesser VILLAGE, then the other one, if they join what isn't joined")
    static void p27_byApartAheadOfNumbers() {
        KnotCaller x = withVillages(0, 255, 254, 252);
        due(x.link(0), 12);
        due(x.link(1), 23);
        due(x.link(2), 3);
    }

    // ---- 28: rivals

    @Says("-5: there are more than 6 VILLAGES")
    static void p28_sixSevenAndEightVillages() {
        KnotCaller x = withVillages(9, 9, 9, 9, 9);
        due(x.rivals(), 125);
        x.village(9);
        due(x.rivals(), 1296);
        x.village(9);
        due(x.rivals(), -5);
        x.village(9);
        due(x.rivals(), -5);
    }

    @Says("-5: there are more than 6 VILLAGES; -3.")
    static void p28_noneOneAndTwoVillages() {
        KnotCaller x = made();
        due(x.rivals(), -3);
        x.village(0);
        due(x.rivals(), 1);
        x.village(255);
        due(x.rivals(), 1);
    }

    @Says("RIVALS: how many such trees (of the same sum) there are, for 6 VILLAGES at most")
    static void p28_treesOfALargerSumDoNotCount() {
        due(withVillages(0, 1, 3).rivals(), 1);
        due(withVillages(0, 3, 5).rivals(), 3);
        due(withVillages(0, 1, 2, 3).rivals(), 4);
        due(withVillages(1, 2, 4, 8, 16, 32).rivals(), 1296);
        due(withVillages(0, 1, 3, 7, 15, 31).rivals(), 1);
    }

    @Says("RIVALS: how many such trees (of the same sum) there are, for 6 VILLAGES at most")
    static void p28_treesOfLargeSums() {
        KnotCaller x = withVillages(0, 15, 51, 60, 85, 90);
        // all are 4 apart
        due(x.tree(), 20);
        due(x.rivals(), 1296);
        KnotCaller y = withVillages(0, 255, 15, 240, 51, 204);
        // three pairs are 8 apart, all others 4: the trees of an octahedron
        due(y.tree(), 20);
        due(y.rivals(), 384);
    }

    // ---- 29: count

    @Says("-1 for others")
    static void p29_whatIs0To5() {
        KnotCaller x = Given.wideWithWool(36);
        due(x.count(-1), -1);
        due(x.count(0), 0);
        due(x.count(5), 0);
        due(x.count(6), -1);
        due(x.count(LARGEST), -1);
        due(x.count(LEAST), -1);
    }

    @Says("0 CHANTS, 1 ROWS, 2 FAULTS, 3 VILLAGES, 4 W, 5 minutes in all")
    static void p29_allOfANewObject() {
        KnotCaller x = new KnotCaller(0);
        int[] want = {0, 0, 0, 0, 4, 0};
        for (int what = 0; what < 6; what++) {
            due(x.count(what), want[what]);
        }
    }

    @Says("0 CHANTS, 1 ROWS, 2 FAULTS, 3 VILLAGES, 4 W, 5 minutes in all")
    static void p29_allOfAFullObject() {
        KnotCaller x = Given.wideWithWool(4);
        Given.sing(x, Given.SO, 1, 1, Given.SO, 3, 2);
        for (int i = 0; i < 13; i++) {
            x.chant();
        }
        for (int i = 0; i < 9; i++) {
            x.village(i);
        }
        Given.tieMany(x, 0, 41);
        for (int row = 0; row < 40; row++) {
            for (int place = 0; place < 4; place++) {
                x.found(row, place, 0);
            }
        }
        int[] want = {12, 40, 160, 8, 4, 80};
        for (int what = 0; what < 6; what++) {
            due(x.count(what), want[what]);
        }
        x.cut();
        due(x.count(1), 39);
        due(x.count(2), 156);
        due(x.count(5), 78);
    }
}
