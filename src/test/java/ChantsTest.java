/** Promises 1 to 9: a new object, and the chants. */
public final class ChantsTest {
    private static final int SO = Given.SO;
    private static final int UPTO = Given.UPTO;
    private static final int TURN = Given.TURN;
    private static final int AGAIN = Given.AGAIN;
    private static final int SING = Given.SING;
    private static final int LIKE = Given.LIKE;

    public static void main(String[] args) {
        newObject();
        chant();
        step();
        stepRefusals();
        stepRefusalsChangeNothing();
        length();
        lengthOfSungChants();
        wildByKnots();
        wildBySteps();
        colour();
        colourOfSungChants();
        colourLikeRowsBelow();
        closes();
        mend();
        mendAtTheEdges();
        mended();
        told();
        Checks.end();
    }

    private static void due(long got, long want) {
        Checks.due(got, want);
    }

    private static KnotCaller wide(int w) {
        return Given.wide(w);
    }

    private static int sing(KnotCaller x, int... steps) {
        return Given.sing(x, steps);
    }

    private static String colours(KnotCaller x, int chant) {
        return Given.colours(x, chant);
    }

    // Promise 1
    private static void newObject() {
        int[][] widths = {{0, 4}, {1, 5}, {36, 40}, {37, 4}, {38, 5}, {73, 40}, {74, 4}, {-1, 40}, {-36, 5},
            {-37, 4}, {-38, 40}, {Integer.MAX_VALUE, 25}, {Integer.MIN_VALUE, 19}};
        for (int[] pair : widths) {
            due(new KnotCaller(pair[0]).count(4), pair[1]);
        }
        KnotCaller x = wide(10);
        due(x.count(0), 0);
        due(x.count(1), 0);
        due(x.count(2), 0);
        due(x.count(3), 0);
        due(x.count(5), 0);
        for (int colour = 0; colour < 8; colour++) {
            due(x.wool(colour), 0);
        }
        for (int hand = 0; hand < 6; hand++) {
            due(x.hand(hand, 8, 5), 0);
            due(x.hands(hand, 0), 0);
            due(x.hands(hand, 1), 0);
            due(x.hands(hand, 2), 0);
        }
        for (int d = 0; d < 8; d++) {
            due(x.weight(d), -11);
        }
        due(x.shifts(0), 0);
        due(x.shifts(1), 0);
    }

    // Promise 2
    private static void chant() {
        KnotCaller x = wide(10);
        for (int i = 0; i < 12; i++) {
            due(x.length(i), -1);
            due(x.chant(), i);
            due(x.length(i), 0);
            due(x.count(0), i + 1);
        }
        due(x.chant(), -2);
        due(x.chant(), -2);
        due(x.count(0), 12);
        due(x.length(12), -1);
    }

    // Promise 3
    private static void step() {
        KnotCaller x = wide(10);
        x.chant();
        due(x.step(SO, 1, 0), 0);
        due(x.step(SO, 40, 7), 1);
        due(x.step(UPTO, -7, 0), 2);
        due(x.step(UPTO, 1000, 7), 3);
        due(x.step(TURN, -1, -1), 4);
        due(x.step(AGAIN, 1, -5), 5);
        due(x.step(AGAIN, 9, 99), 6);
        due(x.step(LIKE, 1, -5), 7);
        due(x.step(LIKE, 9, 99), 8);
        x.chant();
        due(x.step(SING, 0, -1), 0);
        x.chant();
        due(x.step(SING, 0, 100), 0);
        due(x.step(SING, 1, 0), 1);
        due(x.told(0, 8, 1), 9);
        due(x.told(0, 9, 0), -1);
        due(x.told(1, 0, 0), SING);
        due(x.told(2, 1, 1), 1);
    }

    private static void stepRefusals() {
        KnotCaller x = wide(10);
        due(x.step(SO, 1, 0), -3);
        due(x.step(TURN, 0, 0), -3);
        due(x.step(SO, 0, 0), -1);
        due(x.step(SING, 0, 0), -1);
        due(x.step(SING, -1, 0), -1);
        x.chant();
        x.chant();
        int[][] wrong = {{-1, 1, 1}, {6, 1, 1}, {SO, 0, 1}, {SO, -1, 1}, {SO, 41, 1}, {SO, 1, -1}, {SO, 1, 8},
            {UPTO, 1, -1}, {UPTO, 1, 8}, {AGAIN, 0, 0}, {AGAIN, 10, 0}, {AGAIN, -1, 0}, {LIKE, 0, 0}, {LIKE, 10, 0},
            {LIKE, -1, 0}, {SING, -1, 0}, {SING, 1, 0}, {SING, 2, 0}, {SING, 12, 0},
            {SO, Integer.MAX_VALUE, 0}, {Integer.MIN_VALUE, 1, 1}, {Integer.MAX_VALUE, 1, 1}};
        for (int[] w : wrong) {
            due(x.step(w[0], w[1], w[2]), -1);
        }
        for (int i = 0; i < 12; i++) {
            due(x.step(TURN, 0, 0), i);
        }
        due(x.step(TURN, 0, 0), -2);
        due(x.step(SING, 0, 0), -2);
        for (int[] w : wrong) {
            due(x.step(w[0], w[1], w[2]), -1);
        }
        due(x.told(1, 11, 0), TURN);
        due(x.told(1, 12, 0), -1);
        due(x.told(0, 0, 0), -1);
    }

    private static void stepRefusalsChangeNothing() {
        KnotCaller x = wide(10);
        sing(x, SO, 3, 1);
        due(x.step(SO, 41, 1), -1);
        due(x.step(UPTO, 0, 8), -1);
        due(x.step(SING, 0, 0), -1);
        due(x.told(0, 1, 0), -1);
        due(x.length(0), 3);
        due(x.step(SO, 2, 2), 1);
        due(x.length(0), 5);
    }

    // Promise 4
    private static void length() {
        KnotCaller x = wide(10);
        due(x.length(-1), -1);
        due(x.length(0), -1);
        due(x.length(sing(x)), 0);
        due(x.length(sing(x, SO, 40, 1)), 40);
        due(x.length(sing(x, SO, 4, 1, UPTO, 0, 2)), 10);
        due(x.length(sing(x, SO, 10, 1, UPTO, 0, 2)), 10);
        due(x.length(sing(x, SO, 11, 1, UPTO, 0, 2)), 11);
        due(x.length(sing(x, SO, 3, 1, TURN, 0, 0, SO, 1, 2)), 7);
        due(x.length(sing(x, SO, 3, 1, AGAIN, 1, 0)), 6);
        due(x.length(sing(x, SO, 3, 1, AGAIN, 9, 0)), 30);
        due(x.length(sing(x, SO, 3, 1, LIKE, 1, 0)), 10);
        due(x.length(sing(x, SO, 12, 1, LIKE, 1, 0)), 12);
        due(x.length(sing(x, TURN, 0, 0, AGAIN, 9, 0)), 0);
        due(x.length(11), -1);
        due(x.length(Integer.MAX_VALUE), -1);
        due(x.length(Integer.MIN_VALUE), -1);
    }

    private static void lengthOfSungChants() {
        KnotCaller x = wide(10);
        int border = sing(x, SO, 2, 1, UPTO, 0, 2);
        due(x.length(border), 10);
        int framed = sing(x, SO, 3, 4, SING, border, 0);
        due(x.length(framed), 10);
        due(x.told(framed, 1, 3), 10);
        int twice = sing(x, SO, 1, 5, SING, framed, 0, SING, border, 0);
        due(x.told(twice, 1, 3), 10);
        due(x.length(twice), 12);
        int beyond = sing(x, SO, 13, 5, SING, border, 0, LIKE, 1, 0);
        due(x.length(beyond), 15);
        int turned = sing(x, SO, 1, 1, TURN, 0, 0);
        due(x.length(sing(x, SO, 3, 2, SING, turned, 0)), 5);
        int fill = sing(x, LIKE, 9, 0, TURN, 0, 0);
        due(x.length(sing(x, SO, 4, 2, SING, fill, 0)), 16);
    }

    private static void wildByKnots() {
        KnotCaller x = wide(40);
        int thousand = sing(x, SO, 40, 1, AGAIN, 4, 0, AGAIN, 4, 0);
        due(x.length(thousand), 1000);
        int sung = sing(x, SING, thousand, 0);
        due(x.length(sung), 1000);
        due(x.colour(sung, 999), 1);
        due(x.colour(sung, 1000), -4);
        int oneBefore = sing(x, SO, 1, 1, SING, thousand, 0);
        due(x.length(oneBefore), -6);
        int oneBehind = sing(x, SING, thousand, 0, SO, 1, 1);
        due(x.length(oneBehind), -6);
        int half = sing(x, SO, 25, 1, AGAIN, 9, 0, TURN, 0, 0);
        due(x.length(half), 500);
        due(x.length(sing(x, SING, half, 0, SING, half, 0)), 1000);
        due(x.length(sing(x, SING, half, 0, SING, half, 0, SING, half, 0)), -6);
        due(x.length(sing(x, SING, half, 0, TURN, 0, 0)), 1000);
        due(x.length(sing(x, SO, 1, 0, SING, half, 0, TURN, 0, 0)), -6);
        // a wild chant makes the one that sings it wild
        due(x.length(sing(x, SING, oneBehind, 0)), -6);
    }

    private static void wildBySteps() {
        KnotCaller x = wide(4);
        int five = sing(x, TURN, 0, 0, TURN, 0, 0, TURN, 0, 0, TURN, 0, 0, TURN, 0, 0);
        int twelve = x.chant();
        for (int i = 0; i < 12; i++) {
            x.step(TURN, 0, 0);
        }
        int many = x.chant();
        for (int i = 0; i < 12; i++) {
            x.step(SING, twelve, 0);
        }
        int most = x.chant();
        for (int i = 0; i < 6; i++) {
            x.step(SING, many, 0);
        }
        for (int i = 0; i < 4; i++) {
            x.step(SING, twelve, 0);
        }
        x.step(SING, five, 0);
        // 6 * (1 + 12 + 144) + 4 * (1 + 12) + (1 + 5)
        due(x.length(most), 0);
        due(x.closes(most), 0);
        x.step(TURN, 0, 0);
        due(x.length(most), -6);
        due(x.colour(most, 0), -6);
        due(x.closes(most), -6);
        due(x.mend(most, 0), -6);
        due(x.mended(most), -6);
        due(x.told(most, 0, 3), -6);
        due(x.told(most, 0, 0), SING);
        due(x.tie(most), -6);
        for (int chant = most + 1; chant < 12; chant++) {
            x.chant();
            for (int i = 0; i < 12; i++) {
                x.step(SING, chant - 1, 0);
            }
            due(x.length(chant), -6);
        }
    }

    // Promise 5
    private static void colour() {
        KnotCaller x = wide(10);
        int c = sing(x, SO, 1, 1, SO, 2, 2, TURN, 0, 0, SO, 1, 3, AGAIN, 1, 0, UPTO, 0, 5);
        Checks.due(colours(x, c), "12222131222213");
        int d = sing(x, SO, 1, 1, SO, 1, 2, AGAIN, 2, 0, UPTO, 0, 6);
        Checks.due(colours(x, d), "1212126666");
        int e = sing(x, SO, 1, 7, LIKE, 1, 0);
        Checks.due(colours(x, e), "7000000000");
        due(x.colour(e, 10), -4);
        due(x.colour(e, -1), -4);
        due(x.colour(e, Integer.MIN_VALUE), -4);
        due(x.colour(e, Integer.MAX_VALUE), -4);
        due(x.colour(3, 0), -1);
        due(x.colour(-1, 0), -1);
        due(x.colour(-1, -1), -1);
        due(x.colour(sing(x), 0), -4);
        int wild = sing(x, SO, 40, 1, AGAIN, 9, 0, AGAIN, 9, 0);
        due(x.colour(wild, 0), -6);
        due(x.colour(wild, -1), -6);
    }

    private static void colourOfSungChants() {
        KnotCaller x = wide(10);
        int turned = sing(x, SO, 1, 1, SO, 1, 2, TURN, 0, 0);
        Checks.due(colours(x, sing(x, SO, 1, 3, SING, turned, 0, UPTO, 0, 4)), "3122144444");
        int again = sing(x, SO, 1, 1, SO, 1, 2, AGAIN, 2, 0);
        Checks.due(colours(x, sing(x, SO, 2, 3, SING, again, 0, TURN, 0, 0)), "3312121221212133");
        int filled = sing(x, SO, 2, 5, UPTO, 0, 6);
        int nested = sing(x, SO, 3, 7, SING, filled, 0);
        Checks.due(colours(x, nested), "7775566666");
        Checks.due(colours(x, sing(x, SO, 2, 0, SING, nested, 0)), "0077755666");
        Checks.due(colours(x, sing(x, SO, 12, 0, SING, nested, 0)), "00000000000077755");
    }

    private static void colourLikeRowsBelow() {
        KnotCaller x = wide(5);
        for (int colour = 0; colour < 8; colour++) {
            x.dye(colour, 0, 1000);
        }
        int first = sing(x, SO, 1, 1, SO, 1, 2, SO, 1, 3, SO, 1, 4, SO, 1, 5);
        int second = sing(x, SO, 2, 6, UPTO, 0, 7);
        due(x.tie(first), 0);
        due(x.tie(second), 1);
        int like1 = sing(x, SO, 1, 0, LIKE, 1, 0);
        int like2 = sing(x, SO, 1, 0, LIKE, 2, 0);
        int like3 = sing(x, SO, 1, 7, LIKE, 3, 0);
        Checks.due(colours(x, like1), "06777");
        Checks.due(colours(x, like2), "02345");
        Checks.due(colours(x, like3), "70000");
        // places count from where the sung chant begins
        Checks.due(colours(x, sing(x, SO, 2, 3, SING, like2, 0)), "33023");
        // as it is: a fault is copied
        due(x.found(0, 2, 7), 1);
        Checks.due(colours(x, like2), "02745");
        due(x.cut(), 1);
        Checks.due(colours(x, like1), "02745");
        Checks.due(colours(x, like2), "00000");
    }

    // Promise 6
    private static void closes() {
        KnotCaller x = wide(10);
        due(x.closes(0), -1);
        due(x.closes(-1), -1);
        due(x.closes(sing(x)), 0);
        due(x.closes(sing(x, SO, 9, 0)), 0);
        due(x.closes(sing(x, SO, 10, 0)), 1);
        due(x.closes(sing(x, SO, 11, 0)), 0);
        due(x.closes(sing(x, UPTO, 0, 0)), 1);
        due(x.closes(sing(x, UPTO, 0, 0, TURN, 0, 0)), 0);
        due(x.closes(sing(x, SO, 40, 1, AGAIN, 9, 0, AGAIN, 9, 0)), -6);
        due(x.closes(7), -1);
    }

    // Promise 7
    private static void mend() {
        KnotCaller x = wide(10);
        due(x.mend(0, 0), -1);
        due(x.mend(-1, 0), -1);
        int like = sing(x, SO, 3, 1, SO, 3, 2, SO, 3, 3);
        due(x.mend(like, 0), 0);
        due(x.mend(like, 1), 4);
        due(x.mend(like, 2), -1);
        due(x.mend(like, -1), -1);
        int later = sing(x, SO, 3, 1, TURN, 0, 0, SO, 3, 2);
        due(x.mend(later, 0), 2);
        due(x.mend(later, 1), 4);
        int less = sing(x, SO, 1, 1, TURN, 0, 0, SO, 1, 1, AGAIN, 1, 0, SO, 6, 2);
        due(x.mend(less, 0), 4);
        due(x.mend(less, 1), 4);
        // step 0 counts twice, so a change by two is enough; the last step can't be made so short
        int lesser = sing(x, SO, 4, 1, SO, 2, 1, AGAIN, 1, 0, SO, 2, 2);
        due(x.length(lesser), 14);
        due(x.mend(lesser, 0), 0);
        due(x.mend(lesser, 1), 2);
        due(x.mend(sing(x, SO, 10, 1), 0), -4);
        due(x.mend(sing(x, SO, 10, 1), 1), -4);
        due(x.mend(sing(x, UPTO, 0, 1, TURN, 0, 0), 0), -4);
        // only a step of its own is mended, not one of a chant that is sung
        due(x.mend(sing(x, SING, like, 0), 0), -4);
        int ownOne = sing(x, SING, like, 0, SO, 3, 1);
        due(x.mend(ownOne, 0), 1);
        due(x.mend(ownOne, 1), 1);
        int wild = sing(x, SO, 40, 1, AGAIN, 9, 0, AGAIN, 9, 0);
        due(x.mend(wild, 0), -6);
        due(x.mend(wild, 2), -1);
        due(x.told(like, 0, 1), 3);
        due(x.length(like), 9);
        due(x.length(lesser), 14);
    }

    private static void mendAtTheEdges() {
        KnotCaller x = wide(40);
        int one = sing(x, SO, 1, 1);
        due(x.mend(one, 0), 0);
        due(x.mend(one, 1), 40);
        int many = sing(x, SO, 40, 1, SO, 39, 2);
        due(x.mend(many, 0), 0);
        due(x.mend(many, 1), 1);
        due(x.mend(sing(x, SO, 40, 1, SO, 40, 2), 0), -4);
        KnotCaller y = wide(4);
        int ones = sing(y, SO, 1, 1, SO, 1, 1, SO, 1, 1, SO, 1, 1, SO, 1, 1);
        due(y.mend(ones, 0), -4);
        due(y.mended(ones), -4);
        int second = sing(y, SO, 1, 1, SO, 4, 1);
        due(y.mend(second, 0), 1);
        due(y.mend(second, 1), 3);
        int byUpto = sing(y, SO, 6, 1, UPTO, 0, 2);
        due(y.mend(byUpto, 0), 0);
        due(y.mend(byUpto, 1), 4);
    }

    // Promise 8
    private static void mended() {
        KnotCaller x = wide(10);
        due(x.mended(0), -1);
        due(x.mended(-1), -1);
        int later = sing(x, SO, 3, 1, TURN, 0, 0, SO, 3, 2);
        int sings = sing(x, SO, 1, 0, SING, later, 0);
        due(x.length(sings), 10);
        due(x.mended(later), 10);
        due(x.closes(later), 1);
        due(x.told(later, 0, 1), 3);
        due(x.told(later, 2, 1), 4);
        due(x.told(later, 2, 2), 2);
        due(x.length(sings), 11);
        due(x.mended(later), -4);
        due(x.mended(sing(x, TURN, 0, 0)), -4);
        int wild = sing(x, SO, 40, 1, AGAIN, 9, 0, AGAIN, 9, 0);
        due(x.mended(wild), -6);
        due(x.told(wild, 0, 1), 40);
        due(x.told(later, 2, 1), 4);
        Checks.due(colours(x, later), "1111112222");
    }

    // Promise 9
    private static void told() {
        KnotCaller x = wide(10);
        int sung = sing(x, SO, 1, 1);
        int all = sing(x, SO, 2, 5, UPTO, 3, 6, TURN, 4, 4, AGAIN, 2, 7, SING, sung, 3, LIKE, 8, 2);
        int[][] want = {{0, 2, 5, 2}, {1, -2, 6, 10}, {2, -2, -2, 20}, {3, 2, -2, 60}, {4, 0, -2, 61}, {5, 8, -2, 61}};
        for (int step = 0; step < 6; step++) {
            for (int what = 0; what < 4; what++) {
                due(x.told(all, step, what), want[step][what]);
            }
            due(x.told(all, step, 4), -1);
            due(x.told(all, step, -1), -1);
        }
        due(x.told(all, 6, 0), -1);
        due(x.told(all, -1, 0), -1);
        due(x.told(2, 0, 0), -1);
        due(x.told(-1, 0, 0), -1);
        due(x.told(sing(x), 0, 3), -1);
        int wild = sing(x, SO, 40, 1, AGAIN, 9, 0, AGAIN, 9, 0);
        due(x.told(wild, 0, 3), -6);
        due(x.told(wild, 2, 3), -6);
        due(x.told(wild, 3, 3), -1);
        due(x.told(wild, 0, 1), 40);
        due(x.told(wild, 2, 1), 9);
        due(x.told(wild, 2, 2), -2);
    }
}
