/** Promises 30 to 35: the shelves. */
public final class ShelvesTest {
    private static final String NO_SHELF = "IllegalArgumentException";
    private static final String NO_ELEMENT = "IllegalStateException";

    public static void main(String[] args) {
        keepNothing();
        keepSteps();
        keepRows();
        keepRefused();
        make();
        element();
        copy();
        copyWithinOne();
        copyRefused();
        copyRefusalsInOrder();
        weight();
        toss();
        Checks.end();
    }

    private static void due(long got, long want) {
        Checks.due(got, want);
    }

    private static void element(KnotCaller x, int d, int i, String want) {
        Checks.due(Checks.element(x, d, i), want);
    }

    private static String row(KnotCaller x, int d) {
        return Given.elements(x, d);
    }

    /** Five knots wide; chant 0 has a step of each kind, chant 1 closes, and two rows are tied. */
    private static KnotCaller tied() {
        KnotCaller x = new KnotCaller(1);
        x.chant();
        x.step(0, 1, 1);
        x.step(0, 1, 2);
        x.step(0, 1, 3);
        x.step(0, 2, 4);
        x.chant();
        x.step(0, 2, 7);
        x.step(1, 9, 6);
        x.step(2, 9, 9);
        x.step(3, 4, 9);
        x.step(4, 0, 9);
        x.step(5, 3, 9);
        x.chant();
        x.step(1, 0, 5);
        for (int colour = 0; colour < 8; colour++) {
            x.dye(colour, 0, 1000);
        }
        x.tie(0);
        x.tie(2);
        return x;
    }

    // Promise 30
    private static void keepNothing() {
        KnotCaller x = tied();
        due(x.keep(0, 0, -9, 99), 0);
        due(x.weight(0), -11);
        due(x.keep(0, 1, 1, 0), 0);
        due(x.weight(0), 19);
        due(x.keep(0, 0, 0, 0), 0);
        due(x.weight(0), -11);
        due(x.toss(0), -11);
        due(x.make(0, 3, 4), 0);
        due(x.keep(0, 0, 0, 0), 0);
        due(x.copy(0, 0, 0, 0, 0), -11);
        element(x, 0, 0, NO_ELEMENT);
    }

    private static void keepSteps() {
        KnotCaller x = tied();
        for (int step = 0; step < 6; step++) {
            due(x.keep(7 - step, 1, 1, step), 0);
        }
        due(x.toss(7), 2);
        due(x.toss(2), 3);
        // as it is then: mending the chant doesn't reach the shelf
        x.chant();
        x.step(0, 3, 1);
        due(x.keep(0, 1, 3, 0), 0);
        due(x.mended(3), 5);
        due(x.told(3, 0, 1), 5);
        due(x.toss(0), 3);
        due(x.weight(0), 14);
        due(x.keep(0, 1, 3, 0), 0);
        due(x.toss(0), 5);
        due(x.make(0, 4, 1), 0);
        due(x.toss(0), -12);
        due(x.keep(0, 1, 3, 0), 0);
        element(x, 0, 0, NO_ELEMENT);
    }

    private static void keepRows() {
        KnotCaller x = tied();
        due(x.keep(0, 3, 0, -7), 0);
        due(x.keep(1, 3, 1, 7), 0);
        due(x.keep(2, 4, -1, -1), 0);
        Checks.due(row(x, 0), "1 2 3 4 4");
        Checks.due(row(x, 1), "5 5 5 5 5");
        // five knots by hand 0: a minute, and three changes; a minute
        Checks.due(row(x, 2), "4 1");
        x.found(0, 1, 7);
        Checks.due(row(x, 0), "1 2 3 4 4");
        due(x.keep(3, 3, 0, 0), 0);
        Checks.due(row(x, 3), "1 7 3 4 4");
        x.cut();
        Checks.due(row(x, 1), "5 5 5 5 5");
        Checks.due(row(x, 2), "4 1");
        due(x.keep(2, 4, 0, 0), 0);
        Checks.due(row(x, 2), "4");
        x.cut();
        due(x.keep(2, 4, 0, 0), 0);
        Checks.due(row(x, 2), "");
        due(x.copy(2, 0, 2, 0, 0), 0);
        due(x.copy(2, 0, 2, 0, 1), -13);
        due(x.weight(2), -12);
        KnotCaller wide = new KnotCaller(36);
        wide.chant();
        wide.step(1, 0, 7);
        wide.dye(7, 0, 1000);
        wide.dye(7, 0, 1000);
        for (int row = 0; row < 40; row++) {
            wide.tie(0);
        }
        due(wide.keep(0, 3, 39, 0), 0);
        due(wide.keep(1, 4, 0, 0), 0);
        element(wide, 0, 39, "7");
        element(wide, 0, 40, NO_ELEMENT);
        element(wide, 1, 39, "2");
        element(wide, 1, 40, NO_ELEMENT);
    }

    private static void keepRefused() {
        KnotCaller x = tied();
        x.keep(0, 3, 0, 0);
        int[][] wrong = {{-1, 0, 0, 0}, {8, 0, 0, 0}, {0, 2, 0, 0}, {0, 5, 0, 0}, {0, -1, 0, 0}, {0, 1, -1, 0},
            {0, 1, 3, 0}, {0, 1, 0, 4}, {0, 1, 0, -1}, {0, 1, 2, 1}, {0, 3, 2, 0}, {0, 3, -1, 0}, {8, 1, 0, 0},
            {8, 4, 0, 0}, {Integer.MAX_VALUE, 0, 0, 0}, {0, 3, Integer.MAX_VALUE, 0}};
        for (int[] w : wrong) {
            due(x.keep(w[0], w[1], w[2], w[3]), -1);
        }
        Checks.due(row(x, 0), "1 2 3 4 4");
        x.keep(0, 1, 1, 0);
        for (int[] w : wrong) {
            due(x.keep(w[0], w[1], w[2], w[3]), -1);
        }
        due(x.weight(0), 19);
    }

    // Promise 31
    private static void make() {
        KnotCaller x = tied();
        due(x.keep(0, 3, 0, 0), 0);
        due(x.make(0, 3, -1), -14);
        due(x.make(0, 3, Integer.MIN_VALUE), -14);
        due(x.make(0, 3, 61), -1);
        due(x.make(0, 4, Integer.MAX_VALUE), -1);
        due(x.make(0, 2, 5), -1);
        due(x.make(0, 1, 5), -1);
        due(x.make(0, 0, 5), -1);
        due(x.make(0, 5, 5), -1);
        due(x.make(0, 5, -1), -1);
        due(x.make(8, 3, -1), -1);
        due(x.make(-1, 3, -1), -1);
        due(x.make(8, 3, 5), -1);
        due(x.make(-1, 4, 5), -1);
        Checks.due(row(x, 0), "1 2 3 4 4");
        due(x.make(0, 3, 3), 0);
        Checks.due(row(x, 0), "0 0 0");
        due(x.make(0, 4, 0), 0);
        Checks.due(row(x, 0), "");
        due(x.weight(0), -12);
        due(x.make(7, 4, 60), 0);
        element(x, 7, 59, "0");
        element(x, 7, 60, NO_ELEMENT);
        due(x.make(7, 3, 60), 0);
        element(x, 7, 59, "0");
    }

    // Promise 32
    private static void element() {
        KnotCaller x = tied();
        element(x, -1, 0, NO_SHELF);
        element(x, 8, 0, NO_SHELF);
        element(x, 8, -1, NO_SHELF);
        element(x, Integer.MAX_VALUE, 0, NO_SHELF);
        element(x, Integer.MIN_VALUE, 0, NO_SHELF);
        for (int d = 0; d < 8; d++) {
            element(x, d, 0, NO_ELEMENT);
        }
        x.keep(0, 3, 0, 0);
        element(x, 0, 0, "1");
        element(x, 0, 4, "4");
        element(x, 0, 5, NO_ELEMENT);
        element(x, 0, -1, NO_ELEMENT);
        element(x, 0, Integer.MAX_VALUE, NO_ELEMENT);
        element(x, 0, Integer.MIN_VALUE, NO_ELEMENT);
        x.keep(0, 1, 0, 0);
        element(x, 0, 0, NO_ELEMENT);
        x.keep(0, 4, 0, 0);
        element(x, 0, 0, "4");
        element(x, 0, 1, "1");
        element(x, 0, 2, NO_ELEMENT);
    }

    // Promise 33
    private static void copy() {
        KnotCaller x = tied();
        x.keep(0, 3, 0, 0);
        x.make(1, 3, 7);
        due(x.copy(0, 0, 1, 2, 5), 5);
        Checks.due(row(x, 1), "0 0 1 2 3 4 4");
        Checks.due(row(x, 0), "1 2 3 4 4");
        due(x.copy(0, 1, 1, 0, 2), 2);
        Checks.due(row(x, 1), "2 3 1 2 3 4 4");
        due(x.copy(1, 4, 0, 1, 1), 1);
        Checks.due(row(x, 0), "1 3 3 4 4");
        due(x.copy(0, 5, 1, 7, 0), 0);
        due(x.copy(0, 0, 1, 0, 0), 0);
        x.keep(2, 4, 0, 0);
        x.make(3, 4, 2);
        due(x.copy(2, 0, 3, 1, 1), 1);
        Checks.due(row(x, 3), "0 4");
        due(x.knot(0, 1), 2);
        x.make(4, 3, 60);
        due(x.copy(4, 0, 4, 0, 60), 60);
    }

    private static void copyWithinOne() {
        KnotCaller x = tied();
        x.keep(0, 3, 0, 0);
        due(x.copy(0, 0, 0, 1, 4), 4);
        Checks.due(row(x, 0), "1 1 2 3 4");
        due(x.copy(0, 1, 0, 0, 4), 4);
        Checks.due(row(x, 0), "1 2 3 4 4");
        due(x.copy(0, 0, 0, 2, 3), 3);
        Checks.due(row(x, 0), "1 2 1 2 3");
    }

    private static void copyRefused() {
        KnotCaller x = tied();
        x.keep(0, 3, 0, 0);
        x.make(1, 3, 7);
        int[][] beyond = {{0, 0, 1, 0, -1}, {0, -1, 1, 0, 1}, {0, 0, 1, -1, 1}, {0, 0, 1, 0, 6}, {0, 1, 1, 0, 5},
            {0, 6, 1, 0, 0}, {0, 0, 1, 8, 0}, {0, 0, 1, 3, 5}, {1, 0, 0, 0, 6}, {1, 0, 0, 1, 5}, {0, -1, 1, 0, 0},
            {0, 0, 1, -1, 0}, {0, Integer.MAX_VALUE, 1, 0, 1}, {0, 1, 1, 0, Integer.MAX_VALUE},
            {0, Integer.MAX_VALUE, 1, Integer.MAX_VALUE, Integer.MAX_VALUE}, {0, Integer.MIN_VALUE, 1, 0, 1},
            {0, 0, 1, 0, Integer.MIN_VALUE}, {0, 0, 1, Integer.MIN_VALUE, Integer.MIN_VALUE}};
        for (int[] w : beyond) {
            due(x.copy(w[0], w[1], w[2], w[3], w[4]), -13);
        }
        Checks.due(row(x, 0), "1 2 3 4 4");
        Checks.due(row(x, 1), "0 0 0 0 0 0 0");
    }

    private static void copyRefusalsInOrder() {
        KnotCaller x = tied();
        x.keep(0, 3, 0, 0);
        x.keep(1, 4, 0, 0);
        x.keep(2, 1, 0, 0);
        due(x.copy(-1, 0, 0, 0, 1), -1);
        due(x.copy(8, 0, 0, 0, 1), -1);
        due(x.copy(0, 0, -1, 0, 1), -1);
        due(x.copy(0, 0, 8, 0, 1), -1);
        due(x.copy(3, 0, 8, 0, -1), -1);
        due(x.copy(3, 0, 0, 0, 1), -11);
        due(x.copy(0, 0, 3, 0, 1), -11);
        due(x.copy(3, 0, 2, 0, -1), -11);
        due(x.copy(2, 0, 3, 0, -1), -11);
        due(x.copy(0, 0, 1, 0, 1), -12);
        due(x.copy(1, 0, 0, 0, 1), -12);
        due(x.copy(2, 0, 0, 0, 1), -12);
        due(x.copy(0, 0, 2, 0, 1), -12);
        due(x.copy(2, 0, 2, 0, 0), -12);
        due(x.copy(0, 0, 1, 0, -1), -12);
        due(x.copy(0, 99, 2, 0, 1), -12);
        Checks.due(row(x, 0), "1 2 3 4 4");
        Checks.due(row(x, 1), "4 1");
        due(x.weight(2), 12);
    }

    // Promise 34
    private static void weight() {
        KnotCaller x = tied();
        int[] want = {19, 117, 1012, 2034, 14, 18};
        for (int step = 0; step < 6; step++) {
            x.keep(step, 1, 1, step);
            due(x.weight(step), want[step]);
        }
        due(x.weight(-1), -1);
        due(x.weight(8), -1);
        due(x.weight(6), -11);
        x.make(6, 3, 5);
        due(x.weight(6), -12);
        x.make(6, 4, 5);
        due(x.weight(6), -12);
        x.chant();
        x.step(0, 40, 0);
        x.step(4, 2, 0);
        x.step(3, 9, 0);
        x.keep(0, 1, 3, 0);
        x.keep(1, 1, 3, 1);
        x.keep(2, 1, 3, 2);
        due(x.weight(0), 50);
        due(x.weight(1), 16);
        due(x.weight(2), 2044);
    }

    // Promise 35
    private static void toss() {
        KnotCaller x = tied();
        int[] want = {2, -15, -15, 4, 0, 3};
        for (int step = 0; step < 6; step++) {
            x.keep(step, 1, 1, step);
            due(x.toss(step), want[step]);
            due(x.toss(step), want[step]);
        }
        due(x.toss(-1), -1);
        due(x.toss(8), -1);
        due(x.toss(6), -11);
        x.make(6, 3, 5);
        due(x.toss(6), -12);
        x.make(6, 4, 5);
        due(x.toss(6), -12);
    }
}
