import java.util.ArrayList;
import java.util.Arrays;
import java.util.Collections;
import java.util.List;

/**
 * The document once more, written slowly and with the library's help, in other ways than the class: knots are
 * lists, every search looks at all there is, nothing is kept that can be told anew. Its methods have the names
 * and parameters of the class's, for ModelTest.
 */
public final class Model {
    private static final int NONE = Integer.MIN_VALUE;

    /** A chant that is called and is wild. */
    private static final class Wild extends Exception {
        private static final long serialVersionUID = 1L;
    }

    private record Knot(int row, int place, int hand, int colour, int shade, int step) {
    }

    private record Lot(int shade, int knots) {
    }

    private final int w;
    private final List<List<int[]>> chants = new ArrayList<>();
    private final int[][] hands = new int[6][];
    private final List<List<Lot>> lots = new ArrayList<>();
    private final int[] used = new int[8];
    private final List<List<Knot>> rows = new ArrayList<>();
    private final List<int[]> now = new ArrayList<>();
    private final List<Integer> minutes = new ArrayList<>();
    private final List<Integer> villages = new ArrayList<>();
    private final Object[] shelves = new Object[8];
    private int begun;

    public Model(int width) {
        w = 4 + ((width % 37) + 37) % 37;
        for (int i = 0; i < 6; i++) {
            hands[i] = new int[] {8, 5};
        }
        for (int i = 0; i < 8; i++) {
            lots.add(new ArrayList<>());
        }
    }

    private static boolean out(int x, int least, int most) {
        return x < least || x > most;
    }

    // ---- chants; a step is {kind, n, c}

    private List<Integer> call(int chant, int width, int before, List<Integer> ends) throws Wild {
        List<Integer> knots = new ArrayList<>();
        for (int[] step : chants.get(chant)) {
            begun++;
            if (begun > 1000) {
                throw new Wild();
            }
            List<Integer> sofar = new ArrayList<>(knots);
            if (step[0] == 0) {
                knots.addAll(Collections.nCopies(step[1], step[2]));
            } else if (step[0] == 1) {
                while (knots.size() < width) {
                    knots.add(step[2]);
                }
            } else if (step[0] == 2) {
                Collections.reverse(sofar);
                knots.addAll(sofar);
            } else if (step[0] == 3) {
                for (int i = 0; i < step[1]; i++) {
                    knots.addAll(sofar);
                }
            } else if (step[0] == 4) {
                knots.addAll(call(step[1], width - sofar.size(), before + sofar.size(), new ArrayList<>()));
            } else {
                while (knots.size() < width) {
                    int row = rows.size() - step[1];
                    knots.add(row < 0 ? 0 : now.get(row)[knots.size()]);
                }
            }
            if (before + knots.size() > 1000) {
                throw new Wild();
            }
            ends.add(knots.size());
        }
        return knots;
    }

    /** The knots and, behind them, the ends of the steps; null of a wild one. */
    private List<List<Integer>> called(int chant) {
        begun = 0;
        List<Integer> ends = new ArrayList<>();
        try {
            List<Integer> knots = call(chant, w, 0, ends);
            return List.of(knots, ends);
        } catch (Wild wild) {
            return null;
        }
    }

    public int chant() {
        if (chants.size() == 12) {
            return -2;
        }
        chants.add(new ArrayList<>());
        return chants.size() - 1;
    }

    public int step(int kind, int n, int c) {
        if (out(kind, 0, 5) || kind == 0 && out(n, 1, 40) || kind < 2 && out(c, 0, 7)
                || (kind == 3 || kind == 5) && out(n, 1, 9) || kind == 4 && out(n, 0, chants.size() - 2)) {
            return -1;
        }
        if (chants.isEmpty()) {
            return -3;
        }
        List<int[]> latest = chants.get(chants.size() - 1);
        if (latest.size() == 12) {
            return -2;
        }
        latest.add(new int[] {kind, kind == 1 || kind == 2 ? NONE : n, kind < 2 ? c : NONE});
        return latest.size() - 1;
    }

    public int length(int chant) {
        if (out(chant, 0, chants.size() - 1)) {
            return -1;
        }
        List<List<Integer>> call = called(chant);
        return call == null ? -6 : call.get(0).size();
    }

    public int colour(int chant, int i) {
        int length = length(chant);
        if (length < 0) {
            return length;
        }
        return out(i, 0, length - 1) ? -4 : called(chant).get(0).get(i);
    }

    public int closes(int chant) {
        int length = length(chant);
        return length < 0 ? length : length == w ? 1 : 0;
    }

    /** {step, n}, or {refusal}. */
    private int[] leastMend(int chant) {
        int closes = closes(chant);
        if (closes != 0) {
            return new int[] {closes == 1 ? -4 : closes};
        }
        int[] best = {-4};
        int bestChange = 1000;
        List<int[]> steps = chants.get(chant);
        for (int i = 0; i < steps.size(); i++) {
            int[] step = steps.get(i);
            for (int n = 1; n <= 40 && step[0] == 0; n++) {
                int was = step[1];
                step[1] = n;
                boolean closing = closes(chant) == 1;
                step[1] = was;
                if (closing && Math.abs(n - was) < bestChange) {
                    bestChange = Math.abs(n - was);
                    best = new int[] {i, n};
                }
            }
        }
        return best;
    }

    public int mend(int chant, int what) {
        if (out(chant, 0, chants.size() - 1) || out(what, 0, 1)) {
            return -1;
        }
        int[] least = leastMend(chant);
        return least.length == 1 ? least[0] : least[what];
    }

    public int mended(int chant) {
        int[] least = leastMend(chant);
        if (least.length == 1) {
            return least[0];
        }
        chants.get(chant).get(least[0])[1] = least[1];
        return length(chant);
    }

    public int told(int chant, int step, int what) {
        if (out(chant, 0, chants.size() - 1) || out(step, 0, chants.get(chant).size() - 1) || out(what, 0, 3)) {
            return -1;
        }
        if (what == 3) {
            List<List<Integer>> call = called(chant);
            return call == null ? -6 : call.get(1).get(step);
        }
        int told = chants.get(chant).get(step)[what];
        return told == NONE ? -2 : told;
    }

    // ---- hands, wool, rows

    public int hand(int hand, int strip, int pace) {
        if (out(hand, 0, 5) || out(strip, 1, 40) || out(pace, 1, 20)) {
            return -1;
        }
        if (!rows.isEmpty()) {
            return -3;
        }
        int[] before = hands[hand];
        hands[hand] = new int[] {strip, pace};
        return Arrays.equals(before, hands[hand]) ? 0 : 1;
    }

    public int dye(int colour, int shade, int knots) {
        if (out(colour, 0, 7) || out(shade, 0, 9) || out(knots, 1, 1000)) {
            return -1;
        }
        if (lots.get(colour).size() == 10) {
            return -2;
        }
        lots.get(colour).add(new Lot(shade, knots));
        return lots.get(colour).size();
    }

    public int wool(int colour) {
        return out(colour, 0, 7) ? -1 : lots.get(colour).stream().mapToInt(Lot::knots).sum() - used[colour];
    }

    /** The shade of the n-th knot of wool that was ever taken of a colour. */
    private int shadeOf(int colour, int n) {
        int rest = n;
        for (Lot lot : lots.get(colour)) {
            if (rest < lot.knots) {
                return lot.shade;
            }
            rest -= lot.knots;
        }
        throw new AssertionError();
    }

    private int[] handsOfPlaces() {
        List<Integer> places = new ArrayList<>();
        for (int hand = 0; hand < 6; hand++) {
            places.addAll(Collections.nCopies(hands[hand][0], hand));
        }
        places.addAll(Collections.nCopies(w, 5));
        return places.stream().limit(w).mapToInt(Integer::intValue).toArray();
    }

    public int tie(int chant) {
        int closes = closes(chant);
        if (closes < 1) {
            return closes < 0 ? closes : -4;
        }
        if (rows.size() == 40) {
            return -2;
        }
        List<Integer> colours = called(chant).get(0);
        List<Integer> ends = called(chant).get(1);
        for (int colour = 0; colour < 8; colour++) {
            if (Collections.frequency(colours, colour) > wool(colour)) {
                return -5;
            }
        }
        List<Knot> row = new ArrayList<>();
        int[] handOf = handsOfPlaces();
        for (int place = 0; place < w; place++) {
            int colour = colours.get(place);
            int step = 0;
            while (ends.get(step) <= place) {
                step++;
            }
            row.add(new Knot(rows.size(), place, handOf[place], colour, shadeOf(colour, used[colour]), step));
            used[colour]++;
        }
        rows.add(row);
        now.add(colours.stream().mapToInt(Integer::intValue).toArray());
        minutes.add(minutesOf(row));
        return rows.size() - 1;
    }

    private int minutesOf(List<Knot> row) {
        int slowest = 0;
        for (int hand = 0; hand < 6; hand++) {
            int h = hand;
            List<Knot> own = row.stream().filter(k -> k.hand == h).toList();
            int needs = own.size() / hands[hand][1] + (own.size() % hands[hand][1] > 0 ? 1 : 0);
            for (int i = 1; i < own.size(); i++) {
                needs += own.get(i).colour != own.get(i - 1).colour ? 1 : 0;
            }
            slowest = Math.max(slowest, needs);
        }
        return slowest;
    }

    private boolean noKnot(int row, int place) {
        return out(row, 0, rows.size() - 1) || out(place, 0, w - 1);
    }

    private boolean faulty(Knot k) {
        return now.get(k.row)[k.place] != k.colour;
    }

    private List<Knot> allKnots() {
        List<Knot> all = new ArrayList<>();
        rows.forEach(all::addAll);
        return all;
    }

    public int knot(int row, int place) {
        return noKnot(row, place) ? -1 : now.get(row)[place];
    }

    public int look(int row, int place, int what) {
        if (noKnot(row, place) || out(what, 0, 4)) {
            return -1;
        }
        Knot k = rows.get(row).get(place);
        return new int[] {k.hand, k.shade, k.colour, k.step, faulty(k) ? 1 : 0}[what];
    }

    public int found(int row, int place, int colour) {
        if (noKnot(row, place) || out(colour, 0, 7)) {
            return -1;
        }
        now.get(row)[place] = colour;
        return faulty(rows.get(row).get(place)) ? 1 : 0;
    }

    public int cut() {
        if (rows.isEmpty()) {
            return -3;
        }
        int last = rows.size() - 1;
        rows.remove(last);
        now.remove(last);
        minutes.remove(last);
        return last;
    }

    public int minutes(int row) {
        return out(row, 0, rows.size() - 1) ? -1 : minutes.get(row);
    }

    public int shifts(int what) {
        if (out(what, 0, 1)) {
            return -1;
        }
        int shifts = 0;
        Knot[] latest = new Knot[8];
        for (Knot k : allKnots()) {
            Knot before = latest[k.colour];
            if (before != null && before.shade != k.shade && (what == 0 || before.row == k.row)) {
                shifts++;
            }
            latest[k.colour] = k;
        }
        return shifts;
    }

    public int hands(int hand, int what) {
        if (out(hand, 0, 5) || out(what, 0, 2)) {
            return -1;
        }
        int knots = (int) allKnots().stream().filter(k -> k.hand == hand).count();
        int faults = (int) allKnots().stream().filter(k -> k.hand == hand && faulty(k)).count();
        return new int[] {knots, faults, Math.max(0, knots / 10 * 5 - faults * 20)}[what];
    }

    public int unlike(int row, int other) {
        if (out(row, 0, rows.size() - 1) || out(other, -1, rows.size() - 1)) {
            return -1;
        }
        int unlike = 0;
        for (int place = 0; place < w; place++) {
            int there = other == -1 ? now.get(row)[w - place - 1] : now.get(other)[place];
            unlike += now.get(row)[place] != there ? 1 : 0;
        }
        return unlike;
    }

    // ---- borders, villages

    /** {how many of a, how many of b}, or null. */
    private static int[] way(int n, int a, int b) {
        int[] best = null;
        for (int x = 400; x >= 0; x--) {
            for (int y = 0; y <= 400; y++) {
                if (x * a + y * b == n && (best == null || x + y < best[0] + best[1])) {
                    best = new int[] {x, y};
                }
            }
        }
        return best;
    }

    private static boolean notUnits(int a, int b) {
        return out(a, 1, 40) || out(b, 1, 40) || a == b;
    }

    public int side(int n, int a, int b) {
        if (out(n, 1, 400) || notUnits(a, b)) {
            return -1;
        }
        int[] way = way(n, a, b);
        return way == null ? -4 : 1000 * way[0] + way[1];
    }

    public int corner(int n, int m, int a, int b) {
        if (out(n, 1, 400) || out(m, 1, 400) || notUnits(a, b)) {
            return -1;
        }
        int[] first = way(n, a, b);
        int[] second = way(m, a, b);
        if (first == null || second == null) {
            return -4;
        }
        char end = first[1] > 0 ? 'b' : 'a';
        char beginning = second[0] > 0 ? 'a' : 'b';
        return end == beginning ? 1 : 0;
    }

    public int fits(int from, int a, int b) {
        if (out(from, 1, 400) || notUnits(a, b)) {
            return -1;
        }
        for (int n = from; n <= 400; n++) {
            if (corner(n, n, a, b) == 1) {
                return n;
            }
        }
        return -4;
    }

    public int village(int ways) {
        if (out(ways, 0, 255)) {
            return -1;
        }
        if (villages.size() == 8) {
            return -2;
        }
        villages.add(ways);
        return villages.size() - 1;
    }

    /** All links as {apart, lesser, other}, in the order in which the tree looks at them. */
    private List<int[]> links() {
        List<int[]> links = new ArrayList<>();
        for (int a = 0; a < villages.size(); a++) {
            for (int b = a + 1; b < villages.size(); b++) {
                links.add(new int[] {Integer.bitCount(villages.get(a) ^ villages.get(b)), a, b});
            }
        }
        links.sort((p, q) -> Arrays.compare(p, q));
        return links;
    }

    private static boolean joined(List<int[]> links, int a, int b) {
        int reached = 1 << a;
        for (int round = 0; round < 8; round++) {
            for (int[] link : links) {
                int both = 1 << link[1] | 1 << link[2];
                reached |= (reached & both) != 0 ? both : 0;
            }
        }
        return (reached & 1 << b) != 0;
    }

    private List<int[]> treeLinks() {
        List<int[]> taken = new ArrayList<>();
        for (int[] link : links()) {
            if (!joined(taken, link[1], link[2])) {
                taken.add(link);
            }
        }
        return taken;
    }

    public int tree() {
        return villages.isEmpty() ? -3 : treeLinks().stream().mapToInt(link -> link[0]).sum();
    }

    public int link(int i) {
        if (i < 0) {
            return -1;
        }
        List<int[]> taken = treeLinks();
        return i >= taken.size() ? -3 : 10 * taken.get(i)[1] + taken.get(i)[2];
    }

    public int rivals() {
        if (villages.isEmpty()) {
            return -3;
        }
        return villages.size() > 6 ? -5 : trees(links(), 0, new ArrayList<>(), tree());
    }

    private int trees(List<int[]> links, int next, List<int[]> taken, int sum) {
        if (taken.size() == villages.size() - 1) {
            return sum == 0 ? 1 : 0;
        }
        int trees = 0;
        for (int i = next; i < links.size(); i++) {
            int[] link = links.get(i);
            if (link[0] <= sum && !joined(taken, link[1], link[2])) {
                taken.add(link);
                trees += trees(links, i + 1, taken, sum - link[0]);
                taken.remove(taken.size() - 1);
            }
        }
        return trees;
    }

    public int count(int what) {
        return out(what, 0, 5) ? -1 : new int[] {chants.size(), rows.size(),
            (int) allKnots().stream().filter(this::faulty).count(), villages.size(), w,
            minutes.stream().mapToInt(Integer::intValue).sum()}[what];
    }

    // ---- shelves: null, an int[] as step, a byte[] or a short[]

    public int keep(int d, int what, int k, int n) {
        if (out(d, 0, 7) || out(what, 0, 4) || what == 2) {
            return -1;
        }
        if (what == 0) {
            shelves[d] = null;
        } else if (what == 1) {
            if (out(k, 0, chants.size() - 1) || out(n, 0, chants.get(k).size() - 1)) {
                return -1;
            }
            shelves[d] = chants.get(k).get(n).clone();
        } else if (what == 3) {
            if (out(k, 0, rows.size() - 1)) {
                return -1;
            }
            byte[] row = new byte[w];
            for (int i = 0; i < w; i++) {
                row[i] = (byte) now.get(k)[i];
            }
            shelves[d] = row;
        } else {
            short[] row = new short[minutes.size()];
            for (int i = 0; i < row.length; i++) {
                row[i] = minutes.get(i).shortValue();
            }
            shelves[d] = row;
        }
        return 0;
    }

    public int make(int d, int what, int n) {
        if (out(d, 0, 7) || out(what, 3, 4) || n > 60) {
            return -1;
        }
        if (n < 0) {
            return -14;
        }
        shelves[d] = what == 3 ? new byte[n] : new short[n];
        return 0;
    }

    public long element(int d, int i) {
        if (out(d, 0, 7)) {
            throw new IllegalArgumentException();
        }
        if (shelves[d] instanceof byte[] row && !out(i, 0, row.length - 1)) {
            return row[i];
        }
        if (shelves[d] instanceof short[] row && !out(i, 0, row.length - 1)) {
            return row[i];
        }
        throw new IllegalStateException();
    }

    public int copy(int d, int i, int e, int j, int n) {
        if (out(d, 0, 7) || out(e, 0, 7)) {
            return -1;
        }
        if (shelves[d] == null || shelves[e] == null) {
            return -11;
        }
        if (shelves[d] instanceof int[] || shelves[d].getClass() != shelves[e].getClass()) {
            return -12;
        }
        try {
            System.arraycopy(shelves[d], i, shelves[e], j, n);
            return n;
        } catch (IndexOutOfBoundsException beyond) {
            return -13;
        }
    }

    public int weight(int d) {
        if (out(d, 0, 7)) {
            return -1;
        }
        if (shelves[d] instanceof int[] step) {
            int n = step[1];
            int c = step[2];
            return switch (step[0]) {
                case 0 -> 10 + c + n;
                case 1 -> 11 + c + 100;
                case 2 -> 1012;
                case 3 -> (1013 + n) * 2;
                case 4 -> 14 + n;
                default -> 15 + n;
            };
        }
        return shelves[d] == null ? -11 : -12;
    }

    public int toss(int d) {
        if (out(d, 0, 7)) {
            return -1;
        }
        if (shelves[d] instanceof int[] step) {
            return step[1] == NONE ? -15 : step[1];
        }
        return shelves[d] == null ? -11 : -12;
    }
}
