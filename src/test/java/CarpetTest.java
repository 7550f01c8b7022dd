/** Promises 10 to 21: hands, wool and rows. */
public final class CarpetTest {
    private static final int SO = Given.SO;
    private static final int UPTO = Given.UPTO;
    private static final int TURN = Given.TURN;
    private static final int AGAIN = Given.AGAIN;
    private static final int SING = Given.SING;
    private static final int LIKE = Given.LIKE;

    public static void main(String[] args) {
        hand();
        handRefused();
        dye();
        tie();
        tieRefusalsInOrder();
        tieWithoutWool();
        tieTakesLotsInOrder();
        knotAndFound();
        lookAtHands();
        lookAtSteps();
        lookKeepsWhatWasCalled();
        lookRefused();
        cut();
        minutes();
        minutesByPace();
        shifts();
        shiftsAcrossCutRows();
        wool();
        hands();
        wages();
        unlike();
        Checks.end();
    }

    private static void due(long got, long want) {
        Checks.due(got, want);
    }

    private static KnotCaller wide(int w) {
        return Given.wide(w);
    }

    private static KnotCaller wideWithWool(int w) {
        return Given.wideWithWool(w);
    }

    private static int sing(KnotCaller x, int... steps) {
        return Given.sing(x, steps);
    }

    // Promise 10
    private static void hand() {
        KnotCaller x = wide(10);
        due(x.hand(0, 1, 1), 1);
        due(x.hand(0, 1, 1), 0);
        due(x.hand(0, 1, 2), 1);
        due(x.hand(0, 2, 2), 1);
        due(x.hand(0, 40, 20), 1);
        due(x.hand(0, 40, 20), 0);
        due(x.hand(5, 8, 5), 0);
        due(x.hand(5, 8, 6), 1);
        due(x.hand(5, 9, 6), 1);
        due(x.hand(4, 8, 5), 0);
    }

    private static void handRefused() {
        KnotCaller x = wideWithWool(10);
        int[][] wrong = {{-1, 8, 5}, {6, 8, 5}, {0, 0, 5}, {0, 41, 5}, {0, 8, 0}, {0, 8, 21}, {0, -1, 5}, {0, 8, -1},
            {Integer.MAX_VALUE, 8, 5}, {0, Integer.MIN_VALUE, 5}, {0, 8, Integer.MAX_VALUE}};
        for (int[] w : wrong) {
            due(x.hand(w[0], w[1], w[2]), -1);
        }
        due(x.hand(0, 8, 5), 0);
        x.tie(sing(x, UPTO, 0, 1));
        for (int[] w : wrong) {
            due(x.hand(w[0], w[1], w[2]), -1);
        }
        due(x.hand(0, 8, 5), -3);
        due(x.hand(0, 3, 5), -3);
        due(x.look(0, 7, 0), 0);
        due(x.cut(), 0);
        due(x.hand(0, 8, 5), 0);
    }

    // Promise 11
    private static void dye() {
        KnotCaller x = wide(10);
        int[][] wrong = {{-1, 0, 1}, {8, 0, 1}, {0, -1, 1}, {0, 10, 1}, {0, 0, 0}, {0, 0, 1001}, {0, 0, -1},
            {Integer.MIN_VALUE, 0, 1}, {0, Integer.MAX_VALUE, 1}, {0, 0, Integer.MAX_VALUE}};
        for (int[] w : wrong) {
            due(x.dye(w[0], w[1], w[2]), -1);
        }
        due(x.wool(0), 0);
        due(x.dye(0, 0, 1), 1);
        due(x.dye(7, 9, 1000), 1);
        due(x.dye(0, 9, 1000), 2);
        due(x.wool(0), 1001);
        due(x.wool(7), 1000);
        for (int lot = 3; lot <= 10; lot++) {
            due(x.dye(0, lot % 10, 5), lot);
        }
        due(x.dye(0, 1, 5), -2);
        due(x.wool(0), 1041);
        for (int[] w : wrong) {
            due(x.dye(w[0], w[1], w[2]), -1);
        }
        due(x.dye(7, 0, 1), 2);
    }

    // Promise 12
    private static void tie() {
        KnotCaller x = wideWithWool(10);
        int chant = sing(x, SO, 4, 1, UPTO, 0, 2);
        for (int row = 0; row < 40; row++) {
            due(x.tie(chant), row);
            due(x.count(1), row + 1);
        }
        due(x.tie(chant), -2);
        due(x.count(1), 40);
        due(x.wool(1), 2000 - 160);
        due(x.wool(2), 2000 - 240);
        due(x.cut(), 39);
        due(x.tie(chant), 39);
        due(x.knot(39, 3), 1);
        due(x.knot(39, 4), 2);
        due(x.knot(0, 9), 2);
    }

    private static void tieRefusalsInOrder() {
        KnotCaller x = wide(4);
        due(x.tie(0), -1);
        due(x.tie(-1), -1);
        int open = sing(x, SO, 3, 1);
        int wild = sing(x, SO, 40, 1, AGAIN, 9, 0, AGAIN, 9, 0);
        int whole = sing(x, SO, 4, 1);
        due(x.tie(3), -1);
        due(x.tie(open), -4);
        due(x.tie(wild), -6);
        due(x.tie(whole), -5);
        x.dye(1, 0, 160);
        for (int row = 0; row < 40; row++) {
            due(x.tie(whole), row);
        }
        due(x.wool(1), 0);
        due(x.tie(whole), -2);
        due(x.tie(open), -4);
        due(x.tie(wild), -6);
        due(x.tie(3), -1);
        due(x.tie(-1), -1);
        due(x.cut(), 39);
        due(x.tie(whole), -5);
        due(x.count(1), 39);
        due(x.dye(1, 0, 4), 2);
        due(x.tie(whole), 39);
    }

    private static void tieWithoutWool() {
        KnotCaller x = wide(6);
        int chant = sing(x, SO, 3, 1, SO, 3, 2);
        x.dye(1, 5, 100);
        due(x.tie(chant), -5);
        x.dye(2, 6, 2);
        due(x.tie(chant), -5);
        due(x.wool(1), 100);
        due(x.wool(2), 2);
        due(x.count(1), 0);
        due(x.knot(0, 0), -1);
        x.dye(2, 7, 1);
        due(x.tie(chant), 0);
        due(x.wool(1), 97);
        due(x.wool(2), 0);
        due(x.tie(chant), -5);
        due(x.look(0, 4, 1), 6);
        due(x.look(0, 5, 1), 7);
    }

    private static void tieTakesLotsInOrder() {
        KnotCaller x = wide(4);
        int mixed = sing(x, SO, 1, 1, SO, 1, 2, AGAIN, 1, 0);
        x.dye(1, 3, 1);
        x.dye(1, 9, 2);
        x.dye(1, 0, 10);
        x.dye(2, 4, 3);
        x.dye(2, 5, 10);
        due(x.tie(mixed), 0);
        due(x.tie(mixed), 1);
        int[][] want = {{3, 4, 9, 4}, {9, 4, 0, 5}};
        for (int row = 0; row < 2; row++) {
            for (int place = 0; place < 4; place++) {
                due(x.look(row, place, 1), want[row][place]);
            }
        }
    }

    // Promises 13 and 15
    private static void knotAndFound() {
        KnotCaller x = wideWithWool(6);
        int chant = sing(x, SO, 1, 1, SO, 2, 2, UPTO, 0, 3);
        due(x.knot(0, 0), -1);
        due(x.found(0, 0, 0), -1);
        x.tie(chant);
        int[] colours = {1, 2, 2, 3, 3, 3};
        for (int place = 0; place < 6; place++) {
            due(x.knot(0, place), colours[place]);
        }
        due(x.knot(0, 6), -1);
        due(x.knot(0, -1), -1);
        due(x.knot(1, 0), -1);
        due(x.knot(-1, 0), -1);
        due(x.found(0, 1, 2), 0);
        due(x.found(0, 1, 0), 1);
        due(x.knot(0, 1), 0);
        due(x.found(0, 1, 7), 1);
        due(x.knot(0, 1), 7);
        due(x.count(2), 1);
        due(x.found(0, 5, 1), 1);
        due(x.count(2), 2);
        due(x.found(0, 1, 2), 0);
        due(x.count(2), 1);
        due(x.knot(0, 1), 2);
        due(x.found(0, 1, 8), -1);
        due(x.found(0, 1, -1), -1);
        due(x.found(0, 6, 1), -1);
        due(x.found(0, -1, 1), -1);
        due(x.found(1, 0, 1), -1);
        due(x.found(-1, 0, 1), -1);
        due(x.count(2), 1);
        // a row that is cut off takes its faults along
        due(x.cut(), 0);
        due(x.count(2), 0);
        x.tie(chant);
        due(x.count(2), 0);
        due(x.knot(0, 5), 3);
        due(x.look(0, 5, 4), 0);
    }

    // Promise 14
    private static void lookAtHands() {
        KnotCaller x = wideWithWool(40);
        int chant = sing(x, UPTO, 0, 1);
        x.tie(chant);
        for (int place = 0; place < 40; place++) {
            due(x.look(0, place, 0), place / 8);
        }
        x.cut();
        for (int hand = 0; hand < 6; hand++) {
            x.hand(hand, hand + 1, 5);
        }
        x.tie(chant);
        int[] ends = {1, 3, 6, 10, 15, 40};
        int hand = 0;
        for (int place = 0; place < 40; place++) {
            hand += place == ends[hand] ? 1 : 0;
            due(x.look(0, place, 0), hand);
        }
    }

    private static void lookAtSteps() {
        KnotCaller x = wideWithWool(10);
        int inner = sing(x, SO, 1, 4, SO, 1, 5);
        int chant = sing(x, TURN, 0, 0, SO, 2, 1, SING, inner, 0, TURN, 0, 0, LIKE, 1, 0, UPTO, 0, 3);
        x.tie(chant);
        int[] steps = {1, 1, 2, 2, 3, 3, 3, 3, 4, 4};
        int[] colours = {1, 1, 4, 5, 5, 4, 1, 1, 0, 0};
        for (int place = 0; place < 10; place++) {
            due(x.look(0, place, 3), steps[place]);
            due(x.look(0, place, 2), colours[place]);
            due(x.look(0, place, 1), colours[place]);
            due(x.look(0, place, 4), 0);
        }
    }

    private static void lookKeepsWhatWasCalled() {
        KnotCaller x = wideWithWool(4);
        int chant = sing(x, SO, 1, 1, SO, 1, 2, SO, 1, 3, SO, 1, 4);
        x.tie(chant);
        due(x.found(0, 2, 7), 1);
        due(x.look(0, 2, 2), 3);
        due(x.look(0, 2, 1), 3);
        due(x.look(0, 2, 3), 2);
        due(x.look(0, 2, 4), 1);
        due(x.look(0, 3, 4), 0);
        due(x.knot(0, 2), 7);
        // the chant changes, the row doesn't
        x.step(SO, 3, 5);
        int other = sing(x, SO, 4, 6);
        x.tie(other);
        due(x.length(chant), 7);
        due(x.look(0, 3, 3), 3);
        due(x.look(1, 3, 3), 0);
        due(x.look(0, 3, 2), 4);
    }

    private static void lookRefused() {
        KnotCaller x = wideWithWool(4);
        due(x.look(0, 0, 0), -1);
        x.tie(sing(x, UPTO, 0, 1));
        due(x.look(0, 0, 5), -1);
        due(x.look(0, 0, -1), -1);
        due(x.look(0, 4, 0), -1);
        due(x.look(0, -1, 0), -1);
        due(x.look(1, 0, 0), -1);
        due(x.look(-1, 0, 0), -1);
        due(x.look(0, Integer.MAX_VALUE, 0), -1);
        due(x.look(Integer.MIN_VALUE, 0, 0), -1);
    }

    // Promise 16
    private static void cut() {
        KnotCaller x = wideWithWool(4);
        due(x.cut(), -3);
        int chant = sing(x, UPTO, 0, 1);
        x.tie(chant);
        x.tie(chant);
        due(x.wool(1), 1992);
        due(x.cut(), 1);
        due(x.wool(1), 1992);
        due(x.count(1), 1);
        due(x.knot(1, 0), -1);
        due(x.knot(0, 0), 1);
        due(x.cut(), 0);
        due(x.cut(), -3);
        due(x.count(1), 0);
        due(x.tie(chant), 0);
        due(x.wool(1), 1988);
    }

    // Promise 17
    private static void minutes() {
        KnotCaller x = wideWithWool(20);
        due(x.minutes(0), -1);
        // hands have 8, 8 and 4 knots, 5 a minute
        int plain = sing(x, UPTO, 0, 1);
        x.tie(plain);
        due(x.minutes(0), 2);
        // the colour changes just where one hand ends: within none
        int atEdge = sing(x, SO, 8, 1, SO, 8, 2, SO, 4, 1);
        x.tie(atEdge);
        due(x.minutes(1), 2);
        int within = sing(x, SO, 9, 1, SO, 1, 2, UPTO, 0, 1);
        x.tie(within);
        due(x.minutes(2), 4);
        int inLast = sing(x, SO, 16, 1, SO, 1, 2, SO, 1, 3, SO, 1, 4, SO, 1, 5);
        x.tie(inLast);
        due(x.minutes(3), 4);
        due(x.count(5), 12);
        due(x.minutes(4), -1);
        due(x.minutes(-1), -1);
        // a fault that is found later takes no time
        x.found(0, 3, 7);
        due(x.minutes(0), 2);
        due(x.count(5), 12);
        due(x.cut(), 3);
        due(x.minutes(3), -1);
        due(x.count(5), 8);
    }

    private static void minutesByPace() {
        KnotCaller x = wideWithWool(40);
        int plain = sing(x, UPTO, 0, 1);
        due(x.hand(0, 40, 1), 1);
        x.tie(plain);
        due(x.minutes(0), 40);
        x.cut();
        x.hand(0, 40, 20);
        x.tie(plain);
        due(x.minutes(0), 2);
        x.cut();
        x.hand(0, 39, 19);
        x.tie(plain);
        due(x.minutes(0), 3);
        x.cut();
        x.hand(0, 38, 19);
        x.hand(1, 1, 20);
        x.hand(2, 1, 1);
        x.tie(plain);
        due(x.minutes(0), 2);
        x.cut();
        x.hand(0, 1, 20);
        x.hand(3, 1, 20);
        x.hand(4, 1, 20);
        x.hand(5, 1, 1);
        // the last hand has what is beyond all: 35 knots, one a minute
        x.tie(plain);
        due(x.minutes(0), 35);
        int bright = sing(x, SO, 1, 1, SO, 1, 2, AGAIN, 9, 0, TURN, 0, 0);
        x.tie(bright);
        due(x.minutes(1), 35 + 33);
    }

    // Promise 18
    private static void shifts() {
        KnotCaller x = wide(4);
        int chant = sing(x, SO, 1, 1, SO, 1, 2, AGAIN, 1, 0);
        x.dye(1, 3, 1);
        x.dye(1, 4, 1);
        x.dye(1, 5, 2);
        x.dye(1, 5, 1);
        x.dye(1, 3, 9);
        x.dye(2, 7, 4);
        x.dye(2, 8, 9);
        due(x.shifts(0), 0);
        // 3 7 4 7
        x.tie(chant);
        due(x.shifts(0), 1);
        due(x.shifts(1), 1);
        // 5 7 5 7: one shift from the row below
        x.tie(chant);
        due(x.shifts(0), 2);
        due(x.shifts(1), 1);
        // 5 8 3 8: another lot of like shade is no shift
        x.tie(chant);
        due(x.shifts(0), 4);
        due(x.shifts(1), 2);
        due(x.shifts(2), -1);
        due(x.shifts(-1), -1);
        // what was tied with is what counts, not what it is told to be
        x.found(2, 0, 2);
        x.found(2, 1, 1);
        due(x.shifts(0), 4);
        due(x.shifts(1), 2);
        x.cut();
        due(x.shifts(0), 2);
        due(x.shifts(1), 1);
    }

    private static void shiftsAcrossCutRows() {
        KnotCaller x = wide(4);
        int one = sing(x, UPTO, 0, 1);
        int two = sing(x, UPTO, 0, 2);
        x.dye(1, 0, 4);
        x.dye(1, 9, 4);
        x.dye(1, 0, 4);
        x.dye(2, 5, 40);
        x.tie(one);
        x.tie(one);
        due(x.shifts(0), 1);
        due(x.cut(), 1);
        due(x.shifts(0), 0);
        x.tie(two);
        x.tie(one);
        due(x.look(2, 0, 1), 0);
        due(x.shifts(0), 0);
        due(x.shifts(1), 0);
    }

    // Promise 19
    private static void wool() {
        KnotCaller x = wide(5);
        due(x.wool(-1), -1);
        due(x.wool(8), -1);
        due(x.wool(Integer.MAX_VALUE), -1);
        for (int lot = 0; lot < 10; lot++) {
            x.dye(6, 0, 1000);
        }
        due(x.wool(6), 10000);
        due(x.wool(5), 0);
        due(x.wool(7), 0);
        x.tie(sing(x, SO, 5, 6));
        due(x.wool(6), 9995);
    }

    // Promise 20
    private static void hands() {
        KnotCaller x = wideWithWool(20);
        int chant = sing(x, UPTO, 0, 1);
        x.tie(chant);
        x.tie(chant);
        x.tie(chant);
        int[] knots = {24, 24, 12, 0, 0, 0};
        int[] wages = {10, 10, 5, 0, 0, 0};
        for (int hand = 0; hand < 6; hand++) {
            due(x.hands(hand, 0), knots[hand]);
            due(x.hands(hand, 1), 0);
            due(x.hands(hand, 2), wages[hand]);
            due(x.hands(hand, 3), -1);
            due(x.hands(hand, -1), -1);
        }
        due(x.hands(-1, 0), -1);
        due(x.hands(6, 0), -1);
        x.found(0, 7, 2);
        x.found(1, 8, 2);
        x.found(2, 8, 2);
        x.found(2, 19, 1);
        due(x.hands(0, 1), 1);
        due(x.hands(1, 1), 2);
        due(x.hands(2, 1), 0);
        due(x.count(2), 3);
        due(x.cut(), 2);
        due(x.hands(0, 0), 16);
        due(x.hands(1, 1), 1);
        due(x.hands(2, 2), 0);
    }

    private static void wages() {
        KnotCaller x = wideWithWool(9);
        int chant = sing(x, UPTO, 0, 1);
        x.hand(0, 9, 5);
        for (int row = 0; row < 11; row++) {
            x.tie(chant);
        }
        // 99 knots: nine times ten
        due(x.hands(0, 0), 99);
        due(x.hands(0, 2), 45);
        x.found(0, 0, 2);
        due(x.hands(0, 2), 25);
        x.found(10, 8, 2);
        due(x.hands(0, 2), 5);
        x.found(5, 5, 2);
        due(x.hands(0, 2), 0);
        x.found(5, 5, 1);
        due(x.hands(0, 2), 5);
        x.tie(chant);
        due(x.hands(0, 0), 108);
        due(x.hands(0, 2), 10);
    }

    // Promise 21
    private static void unlike() {
        KnotCaller x = wideWithWool(5);
        due(x.unlike(0, 0), -1);
        due(x.unlike(0, -1), -1);
        x.tie(sing(x, SO, 1, 1, SO, 1, 2, SO, 1, 3, SO, 1, 2, SO, 1, 1));
        x.tie(sing(x, SO, 2, 1, UPTO, 0, 2));
        due(x.unlike(0, 0), 0);
        due(x.unlike(0, 1), 3);
        due(x.unlike(1, 0), 3);
        due(x.unlike(0, -1), 0);
        due(x.unlike(1, -1), 4);
        x.found(0, 2, 2);
        due(x.unlike(0, 1), 2);
        due(x.unlike(0, -1), 0);
        x.found(0, 0, 7);
        due(x.unlike(0, 1), 3);
        due(x.unlike(0, -1), 2);
        due(x.unlike(2, 0), -1);
        due(x.unlike(0, 2), -1);
        due(x.unlike(0, -2), -1);
        due(x.unlike(-1, 0), -1);
        due(x.unlike(-1, -1), -1);
        due(x.unlike(2, -1), -1);
    }
}
