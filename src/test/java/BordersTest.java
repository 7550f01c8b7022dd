/** Promises 22 to 29: borders, villages and counts. */
public final class BordersTest {
    public static void main(String[] args) {
        side();
        sideOfAllUnits();
        corner();
        cornerOfManySides();
        fits();
        fitsOfAllUnits();
        village();
        tree();
        treeOfLikeVillages();
        link();
        rivals();
        rivalsOfManyVillages();
        count();
        Checks.end();
    }

    private static void due(long got, long want) {
        Checks.due(got, want);
    }

    // Promise 22
    private static void side() {
        KnotCaller x = new KnotCaller(6);
        due(x.side(1, 1, 2), 1000);
        due(x.side(1, 2, 1), 1);
        due(x.side(1, 2, 3), -4);
        due(x.side(400, 40, 1), 10000);
        due(x.side(400, 1, 40), 10);
        due(x.side(399, 40, 1), 9039);
        due(x.side(400, 39, 40), 10);
        due(x.side(39, 40, 2), -4);
        due(x.side(12, 3, 4), 3);
        due(x.side(12, 4, 3), 3000);
        due(x.side(10, 6, 4), 1001);
        due(x.side(10, 4, 6), 1001);
        due(x.side(17, 7, 5), 1002);
        int[][] wrong = {{0, 1, 2}, {401, 1, 2}, {-1, 1, 2}, {5, 0, 2}, {5, 41, 2}, {5, 1, 0}, {5, 1, 41}, {5, 2, 2},
            {5, -1, 2}, {5, 1, -2}, {5, 40, 40}, {0, 0, 0}, {Integer.MAX_VALUE, 1, 2}, {5, Integer.MIN_VALUE, 2}};
        for (int[] w : wrong) {
            due(x.side(w[0], w[1], w[2]), -1);
        }
    }

    /** The fewest units for each n by adding one unit to the fewest of what is shorter. */
    private static int[] fewestUnits(int a, int b) {
        int[] fewest = new int[401];
        for (int n = 1; n <= 400; n++) {
            int best = 9999;
            best = n >= a ? Math.min(best, fewest[n - a] + 1) : best;
            best = n >= b ? Math.min(best, fewest[n - b] + 1) : best;
            fewest[n] = Math.min(best, 9999);
        }
        return fewest;
    }

    private static void sideOfAllUnits() {
        for (int a = 1; a <= 40; a++) {
            for (int b = 1; b <= 40; b++) {
                KnotCaller x = new KnotCaller(6);
                int[] fewest = fewestUnits(a, b);
                for (int n = 1; n <= 400 && a != b; n++) {
                    int way = x.side(n, a, b);
                    if (fewest[n] >= 9999) {
                        due(way, -4);
                    } else {
                        due(way / 1000 + way % 1000, fewest[n]);
                        due(way / 1000 * a + way % 1000 * b, n);
                    }
                }
            }
        }
    }

    // Promise 23
    private static void corner() {
        KnotCaller x = new KnotCaller(6);
        due(x.corner(6, 6, 3, 4), 1);
        due(x.corner(8, 8, 3, 4), 1);
        due(x.corner(7, 7, 3, 4), 0);
        due(x.corner(7, 8, 3, 4), 1);
        due(x.corner(8, 7, 3, 4), 0);
        due(x.corner(6, 7, 3, 4), 1);
        due(x.corner(7, 6, 3, 4), 0);
        due(x.corner(6, 8, 3, 4), 0);
        due(x.corner(8, 6, 3, 4), 0);
        due(x.corner(5, 6, 3, 4), -4);
        due(x.corner(6, 5, 3, 4), -4);
        due(x.corner(5, 5, 3, 4), -4);
        due(x.corner(1, 400, 1, 2), 0);
        due(x.corner(400, 1, 2, 1), 0);
        due(x.corner(400, 400, 2, 1), 1);
        int[][] wrong = {{0, 6, 3, 4}, {6, 0, 3, 4}, {401, 6, 3, 4}, {6, 401, 3, 4}, {6, 6, 0, 4}, {6, 6, 41, 4},
            {6, 6, 3, 0}, {6, 6, 3, 41}, {6, 6, 3, 3}, {5, 0, 3, 4}, {5, 5, 3, 3}};
        for (int[] w : wrong) {
            due(x.corner(w[0], w[1], w[2], w[3]), -1);
        }
    }

    private static String laid(KnotCaller x, int n, int a, int b) {
        int way = x.side(n, a, b);
        return way < 0 ? "" : "a".repeat(way / 1000) + "b".repeat(way % 1000);
    }

    private static void cornerOfManySides() {
        int[][] units = {{3, 5}, {5, 3}, {7, 4}, {4, 7}, {6, 4}, {1, 9}, {40, 39}};
        for (int[] u : units) {
            for (int n = 1; n <= 60; n++) {
                KnotCaller x = new KnotCaller(6);
                for (int m = 1; m <= 60; m++) {
                    String first = laid(x, n, u[0], u[1]);
                    String second = laid(x, m, u[0], u[1]);
                    int want = first.isEmpty() || second.isEmpty() ? -4
                            : first.charAt(first.length() - 1) == second.charAt(0) ? 1 : 0;
                    due(x.corner(n, m, u[0], u[1]), want);
                }
            }
        }
    }

    // Promise 24
    private static void fits() {
        KnotCaller x = new KnotCaller(6);
        due(x.fits(1, 1, 2), 1);
        due(x.fits(2, 1, 2), 2);
        due(x.fits(3, 1, 2), 4);
        due(x.fits(400, 1, 2), 400);
        due(x.fits(399, 1, 2), 400);
        due(x.fits(1, 40, 39), 39);
        due(x.fits(40, 40, 39), 40);
        due(x.fits(400, 39, 37), -4);
        due(x.fits(400, 9, 7), -4);
        int[][] wrong = {{0, 3, 4}, {401, 3, 4}, {-1, 3, 4}, {5, 0, 4}, {5, 41, 4}, {5, 3, 0}, {5, 3, 41}, {5, 3, 3},
            {Integer.MIN_VALUE, 3, 4}, {Integer.MAX_VALUE, 3, 4}};
        for (int[] w : wrong) {
            due(x.fits(w[0], w[1], w[2]), -1);
        }
    }

    private static void fitsOfAllUnits() {
        for (int a = 1; a <= 40; a++) {
            for (int b = 1; b <= 40; b += 3) {
                KnotCaller corners = new KnotCaller(6);
                KnotCaller x = new KnotCaller(6);
                int want = -4;
                for (int n = 400; n >= 1 && a != b; n--) {
                    want = corners.corner(n, n, a, b) == 1 ? n : want;
                    due(x.fits(n, a, b), want);
                }
            }
        }
    }

    // Promise 25
    private static void village() {
        KnotCaller x = new KnotCaller(6);
        due(x.village(-1), -1);
        due(x.village(256), -1);
        due(x.village(Integer.MAX_VALUE), -1);
        due(x.village(Integer.MIN_VALUE), -1);
        due(x.count(3), 0);
        due(x.village(0), 0);
        due(x.village(255), 1);
        for (int v = 2; v < 8; v++) {
            due(x.village(v), v);
            due(x.count(3), v + 1);
        }
        int sum = x.tree();
        due(x.village(7), -2);
        due(x.village(256), -1);
        due(x.village(-1), -1);
        due(x.count(3), 8);
        due(x.tree(), sum);
    }

    // Promise 26
    private static void tree() {
        KnotCaller x = new KnotCaller(6);
        due(x.tree(), -3);
        x.village(0);
        due(x.tree(), 0);
        x.village(255);
        due(x.tree(), 8);
        x.village(15);
        due(x.tree(), 8);
        due(x.link(0), 2);
        due(x.link(1), 12);
        x.village(16);
        // 0-3 by one bit, 0-2 by four, 1-2 by four
        due(x.tree(), 9);
        due(x.link(0), 3);
        due(x.link(1), 2);
        due(x.link(2), 12);
    }

    private static void treeOfLikeVillages() {
        KnotCaller x = new KnotCaller(6);
        for (int v = 0; v < 8; v++) {
            x.village(170);
        }
        due(x.tree(), 0);
        for (int i = 0; i < 7; i++) {
            due(x.link(i), i + 1);
        }
        due(x.link(7), -3);
    }

    // Promise 27
    private static void link() {
        KnotCaller x = new KnotCaller(6);
        due(x.link(0), -3);
        due(x.link(-1), -1);
        x.village(0);
        due(x.link(0), -3);
        x.village(7);
        due(x.link(0), 1);
        due(x.link(1), -3);
        due(x.link(-1), -1);
        due(x.link(Integer.MIN_VALUE), -1);
        due(x.link(Integer.MAX_VALUE), -3);
        int[] ways = {1, 3, 255, 127, 64, 80};
        for (int w : ways) {
            x.village(w);
        }
        // 0:0 1:7 2:1 3:3 4:255 5:127 6:64 7:80
        int[] want = {2, 6, 13, 23, 45, 67, 15};
        for (int i = 0; i < 7; i++) {
            due(x.link(i), want[i]);
        }
        due(x.tree(), 10);
    }

    // Promise 28
    private static void rivals() {
        KnotCaller x = new KnotCaller(6);
        due(x.rivals(), -3);
        x.village(9);
        due(x.rivals(), 1);
        int[] like = {1, 3, 16, 125, 1296};
        for (int want : like) {
            x.village(9);
            due(x.rivals(), want);
        }
        x.village(9);
        due(x.rivals(), -5);
        x.village(9);
        due(x.rivals(), -5);
        KnotCaller y = new KnotCaller(6);
        y.village(0);
        y.village(1);
        y.village(2);
        due(y.rivals(), 1);
        y.village(3);
        // a ring of four links by one bit each
        due(y.rivals(), 4);
        y.village(0);
        due(y.tree(), 3);
        due(y.rivals(), 12);
    }

    private static void rivalsOfManyVillages() {
        int seed = 12345;
        for (int run = 0; run < 300; run++) {
            KnotCaller x = new KnotCaller(run);
            int number = 1 + run % 6;
            int[] ways = new int[number];
            for (int v = 0; v < number; v++) {
                seed = seed * 1103515245 + 12345;
                ways[v] = (seed >>> 16) & (run % 3 == 0 ? 255 : run % 3 == 1 ? 15 : 7);
                x.village(ways[v]);
            }
            int[] want = treesBySum(ways);
            due(x.tree(), want[0]);
            due(x.rivals(), want[1]);
        }
    }

    /** All sets of links that are trees: the least sum, and how many have it. */
    private static int[] treesBySum(int[] ways) {
        int number = ways.length;
        int[] from = new int[15];
        int[] to = new int[15];
        int links = 0;
        for (int a = 0; a < number; a++) {
            for (int b = a + 1; b < number; b++) {
                from[links] = a;
                to[links] = b;
                links++;
            }
        }
        int least = Integer.MAX_VALUE;
        int many = 0;
        for (int set = 0; set < 1 << links; set++) {
            if (Integer.bitCount(set) == number - 1 && joinsAll(set, from, to, number)) {
                int sum = 0;
                for (int i = 0; i < links; i++) {
                    sum += (set >> i & 1) * Integer.bitCount(ways[from[i]] ^ ways[to[i]]);
                }
                many = sum < least ? 1 : sum == least ? many + 1 : many;
                least = Math.min(least, sum);
            }
        }
        return new int[] {least, many};
    }

    private static boolean joinsAll(int set, int[] from, int[] to, int number) {
        int reached = 1;
        for (int round = 0; round < number; round++) {
            for (int i = 0; i < from.length; i++) {
                if ((set >> i & 1) != 0 && ((reached >> from[i] | reached >> to[i]) & 1) != 0) {
                    reached |= 1 << from[i] | 1 << to[i];
                }
            }
        }
        return reached == (1 << number) - 1;
    }

    // Promise 29
    private static void count() {
        KnotCaller x = new KnotCaller(6);
        due(x.count(-1), -1);
        due(x.count(6), -1);
        due(x.count(Integer.MAX_VALUE), -1);
        x.chant();
        x.step(0, 10, 3);
        x.chant();
        x.dye(3, 0, 1000);
        x.village(1);
        x.village(2);
        x.village(3);
        for (int row = 0; row < 4; row++) {
            x.tie(0);
        }
        x.found(0, 0, 1);
        x.found(3, 9, 1);
        due(x.count(0), 2);
        due(x.count(1), 4);
        due(x.count(2), 2);
        due(x.count(3), 3);
        due(x.count(4), 10);
        due(x.count(5), 8);
        x.cut();
        due(x.count(1), 3);
        due(x.count(2), 1);
        due(x.count(5), 6);
        due(x.count(-1), -1);
        due(x.count(6), -1);
    }
}
