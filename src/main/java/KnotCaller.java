import java.util.ArrayList;

/**
 * Carpets tied row by row as a caller sings: the face checks what it is given and answers with the
 * document's refusals; the classes inside hold the chants, the carpet, the villages and the shelves.
 */
public final class KnotCaller {
    private static final int NO_SUCH = -1;
    private static final int FULL = -2;
    private static final int HAS_NONE = -2;
    private static final int NONE_THERE = -3;
    private static final int ROW_THERE = -3;
    private static final int NO_WAY = -4;
    private static final int TOO_LITTLE = -5;
    private static final int TOO_MANY = -5;
    private static final int WILD = -6;
    private static final int NOTHING_HELD = -11;
    private static final int OTHER_KIND = -12;
    private static final int NO_PLACE = -13;
    private static final int BELOW_ZERO = -14;
    private static final int NO_FAILURE = -15;

    private static final int SO = 0;
    private static final int UPTO = 1;
    private static final int TURN = 2;
    private static final int AGAIN = 3;
    private static final int SING = 4;
    private static final int LIKE = 5;

    private static final int NOTHING = 0;
    private static final int STEP = 1;
    private static final int BYTES = 3;
    private static final int SHORTS = 4;

    private static final int COLOURS = 8;
    private static final int HANDS = 6;
    private static final int SHELVES = 8;
    private static final int MOST_CHANTS = 12;
    private static final int MOST_STEPS = 12;
    private static final int MOST_ROWS = 40;
    private static final int MOST_KNOTS = 1000;
    private static final int MOST_BEGUN = 1000;
    private static final int MOST_SO = 40;
    private static final int MOST_TIMES = 9;
    private static final int MOST_LOTS = 10;
    private static final int MOST_VILLAGES = 8;
    private static final int MOST_RIVALS = 6;
    private static final int WAYS = 8;
    private static final int BEYOND_ALL_SUMS = MOST_VILLAGES * WAYS;
    private static final int LONGEST_SIDE = 400;
    private static final int LARGEST_UNIT = 40;
    private static final int LONGEST_MADE = 60;

    private final int width;
    private final Carpet carpet;
    private final Caller caller;
    private final Villages villages;
    private final Shelf[] shelves;

    public KnotCaller(int width) {
        this.width = 4 + Math.floorMod(width, 37);
        carpet = new Carpet(this.width);
        caller = new Caller(this.width, carpet);
        villages = new Villages();
        shelves = new Shelf[SHELVES];
        for (int d = 0; d < SHELVES; d++) {
            shelves[d] = new Shelf();
        }
    }

    // ---- chants

    public int chant() {
        return caller.addChant();
    }

    public int step(int kind, int n, int c) {
        if (!isStepAsTold(kind, n, c)) {
            return NO_SUCH;
        }
        return caller.addStep(kind, n, c);
    }

    public int length(int chant) {
        return caller.hasChant(chant) ? caller.measured(chant) : NO_SUCH;
    }

    public int colour(int chant, int i) {
        if (!caller.hasChant(chant)) {
            return NO_SUCH;
        }
        int knots = caller.sung(chant);
        if (knots < 0) {
            return WILD;
        }
        return isWithin(i, 0, knots - 1) ? caller.heard(i) : NO_WAY;
    }

    public int closes(int chant) {
        if (!caller.hasChant(chant)) {
            return NO_SUCH;
        }
        int knots = caller.measured(chant);
        if (knots < 0) {
            return WILD;
        }
        return knots == width ? 1 : 0;
    }

    public int mend(int chant, int what) {
        if (!caller.hasChant(chant) || !isWithin(what, 0, 1)) {
            return NO_SUCH;
        }
        int refusal = caller.findMend(chant);
        if (refusal < 0) {
            return refusal;
        }
        return what == 0 ? caller.mendStep : caller.mendN;
    }

    public int mended(int chant) {
        if (!caller.hasChant(chant)) {
            return NO_SUCH;
        }
        int refusal = caller.findMend(chant);
        if (refusal < 0) {
            return refusal;
        }
        caller.mendAsFound(chant);
        return caller.measured(chant);
    }

    public int told(int chant, int step, int what) {
        if (!caller.hasStep(chant, step)) {
            return NO_SUCH;
        }
        Step asked = caller.stepOf(chant, step);
        switch (what) {
            case 0:
                return asked.kind;
            case 1:
                return asked.hasN() ? asked.n : HAS_NONE;
            case 2:
                return asked.hasColour() ? asked.colour : HAS_NONE;
            case 3:
                return caller.measured(chant) < 0 ? WILD : caller.endOf(step);
            default:
                return NO_SUCH;
        }
    }

    private boolean isStepAsTold(int kind, int n, int c) {
        switch (kind) {
            case SO:
                return isWithin(n, 1, MOST_SO) && isColour(c);
            case UPTO:
                return isColour(c);
            case TURN:
                return true;
            case AGAIN:
            case LIKE:
                return isWithin(n, 1, MOST_TIMES);
            case SING:
                return isWithin(n, 0, caller.chants() - 2);
            default:
                return false;
        }
    }

    // ---- hands, wool, rows

    public int hand(int hand, int strip, int pace) {
        if (!isHand(hand) || !isWithin(strip, 1, 40) || !isWithin(pace, 1, 20)) {
            return NO_SUCH;
        }
        if (carpet.tied > 0) {
            return ROW_THERE;
        }
        return carpet.setHand(hand, strip, pace) ? 1 : 0;
    }

    public int dye(int colour, int shade, int knots) {
        if (!isColour(colour) || !isWithin(shade, 0, 9) || !isWithin(knots, 1, 1000)) {
            return NO_SUCH;
        }
        return carpet.wools[colour].addLot(shade, knots);
    }

    public int tie(int chant) {
        if (!caller.hasChant(chant)) {
            return NO_SUCH;
        }
        int knots = caller.sung(chant);
        if (knots < 0) {
            return WILD;
        }
        return knots == width ? carpet.tieRow(caller) : NO_WAY;
    }

    public int knot(int row, int place) {
        return carpet.hasKnot(row, place) ? carpet.rows[row].now[place] : NO_SUCH;
    }

    public int look(int row, int place, int what) {
        if (!carpet.hasKnot(row, place)) {
            return NO_SUCH;
        }
        Row looked = carpet.rows[row];
        switch (what) {
            case 0:
                return carpet.handAt(place);
            case 1:
                return looked.shades[place];
            case 2:
                return looked.called[place];
            case 3:
                return looked.steps[place];
            case 4:
                return looked.isFault(place) ? 1 : 0;
            default:
                return NO_SUCH;
        }
    }

    public int found(int row, int place, int colour) {
        if (!carpet.hasKnot(row, place) || !isColour(colour)) {
            return NO_SUCH;
        }
        Row faulty = carpet.rows[row];
        faulty.now[place] = (byte) colour;
        return faulty.isFault(place) ? 1 : 0;
    }

    public int cut() {
        if (carpet.tied == 0) {
            return NONE_THERE;
        }
        carpet.tied--;
        return carpet.tied;
    }

    public int minutes(int row) {
        return carpet.hasRow(row) ? carpet.rows[row].minutes : NO_SUCH;
    }

    public int shifts(int what) {
        return isWithin(what, 0, 1) ? carpet.shiftsInAll(what == 1) : NO_SUCH;
    }

    public int wool(int colour) {
        return isColour(colour) ? carpet.wools[colour].leftInAll() : NO_SUCH;
    }

    public int hands(int hand, int what) {
        if (!isHand(hand)) {
            return NO_SUCH;
        }
        switch (what) {
            case 0:
                return carpet.knotsBy(hand);
            case 1:
                return carpet.faultsBy(hand);
            case 2:
                return carpet.wagesOf(hand);
            default:
                return NO_SUCH;
        }
    }

    public int unlike(int row, int other) {
        if (!carpet.hasRow(row)) {
            return NO_SUCH;
        }
        if (other == -1) {
            return carpet.unlikeMirrored(row);
        }
        return carpet.hasRow(other) ? carpet.unlikeRows(row, other) : NO_SUCH;
    }

    // ---- borders, villages

    public int side(int n, int a, int b) {
        return isSide(n) && areUnits(a, b) ? wayOf(n, a, b) : NO_SUCH;
    }

    public int corner(int n, int m, int a, int b) {
        if (!isSide(n) || !isSide(m) || !areUnits(a, b)) {
            return NO_SUCH;
        }
        int first = wayOf(n, a, b);
        int second = wayOf(m, a, b);
        if (first < 0 || second < 0) {
            return NO_WAY;
        }
        return meet(first, second) ? 1 : 0;
    }

    public int fits(int from, int a, int b) {
        if (!isSide(from) || !areUnits(a, b)) {
            return NO_SUCH;
        }
        for (int n = from; n <= LONGEST_SIDE; n++) {
            int way = wayOf(n, a, b);
            if (way >= 0 && meet(way, way)) {
                return n;
            }
        }
        return NO_WAY;
    }

    public int village(int ways) {
        return isWithin(ways, 0, 255) ? villages.add(ways) : NO_SUCH;
    }

    public int tree() {
        return villages.number == 0 ? NONE_THERE : villages.sum;
    }

    public int link(int i) {
        if (i < 0) {
            return NO_SUCH;
        }
        return i < villages.linked ? villages.links[i] : NONE_THERE;
    }

    public int rivals() {
        if (villages.number == 0) {
            return NONE_THERE;
        }
        return villages.number > MOST_RIVALS ? TOO_MANY : villages.rivalTrees();
    }

    public int count(int what) {
        switch (what) {
            case 0:
                return caller.chants();
            case 1:
                return carpet.tied;
            case 2:
                return carpet.faultsInAll();
            case 3:
                return villages.number;
            case 4:
                return width;
            case 5:
                return carpet.minutesInAll();
            default:
                return NO_SUCH;
        }
    }

    public int keep(int d, int what, int k, int n) {
        if (!isShelf(d)) {
            return NO_SUCH;
        }
        switch (what) {
            case NOTHING:
                shelves[d].holdNothing();
                return 0;
            case STEP:
                return keepStep(shelves[d], k, n);
            case BYTES:
                return keepColours(shelves[d], k);
            case SHORTS:
                return keepMinutes(shelves[d]);
            default:
                return NO_SUCH;
        }
    }

    public int make(int d, int what, int n) {
        if (!isShelf(d) || (what != BYTES && what != SHORTS) || n > LONGEST_MADE) {
            return NO_SUCH;
        }
        if (n < 0) {
            return BELOW_ZERO;
        }
        shelves[d].holdZeros(what, n);
        return 0;
    }

    public long element(int d, int i) throws IllegalArgumentException, IllegalStateException {
        if (!isShelf(d)) {
            throw new IllegalArgumentException("no such shelf");
        }
        Shelf shelf = shelves[d];
        if (!shelf.holdsRow() || !isWithin(i, 0, shelf.size - 1)) {
            throw new IllegalStateException("no such place of a row on this shelf");
        }
        return shelf.elements[i];
    }

    public int copy(int d, int i, int e, int j, int n) {
        if (!isShelf(d) || !isShelf(e)) {
            return NO_SUCH;
        }
        Shelf from = shelves[d];
        Shelf to = shelves[e];
        if (from.kind == NOTHING || to.kind == NOTHING) {
            return NOTHING_HELD;
        }
        if (!from.holdsRow() || from.kind != to.kind) {
            return OTHER_KIND;
        }
        if (!from.hasPlaces(i, n) || !to.hasPlaces(j, n)) {
            return NO_PLACE;
        }
        System.arraycopy(from.elements, i, to.elements, j, n);
        return n;
    }

    public int weight(int d) {
        Step held = stepOn(d);
        return held == null ? whyNoStepOn(d) : held.heft();
    }

    public int toss(int d) {
        Step held = stepOn(d);
        if (held == null) {
            return whyNoStepOn(d);
        }
        try {
            held.fail();
        } catch (IllegalStateException failure) {
            return held.n;
        }
        return NO_FAILURE;
    }

    // ---- what the face asks of numbers, borders and shelves

    private static boolean isWithin(int number, int least, int most) {
        return number >= least && number <= most;
    }

    private static boolean isColour(int colour) {
        return isWithin(colour, 0, COLOURS - 1);
    }

    private static boolean isHand(int hand) {
        return isWithin(hand, 0, HANDS - 1);
    }

    private static boolean isShelf(int d) {
        return isWithin(d, 0, SHELVES - 1);
    }

    private static boolean isSide(int n) {
        return isWithin(n, 1, LONGEST_SIDE);
    }

    private static boolean areUnits(int a, int b) {
        return isWithin(a, 1, LARGEST_UNIT) && isWithin(b, 1, LARGEST_UNIT) && a != b;
    }

    /**
     * The way of a side with units that are as told. The fewest units come with the most of the
     * larger one; two ways never have equally many, since the units are unlike.
     */
    private static int wayOf(int n, int a, int b) {
        int larger = Math.max(a, b);
        int lesser = Math.min(a, b);
        for (int many = n / larger; many >= 0; many--) {
            int rest = n - many * larger;
            if (rest % lesser == 0) {
                int few = rest / lesser;
                return a == larger ? 1000 * many + few : 1000 * few + many;
            }
        }
        return NO_WAY;
    }

    private static boolean meet(int firstWay, int secondWay) {
        boolean firstEndsWithA = firstWay % 1000 == 0;
        boolean secondBeginsWithA = secondWay / 1000 > 0;
        return firstEndsWithA == secondBeginsWithA;
    }

    private int keepStep(Shelf shelf, int chant, int step) {
        if (!caller.hasStep(chant, step)) {
            return NO_SUCH;
        }
        Step kept = caller.stepOf(chant, step);
        // a step of its own: mending the chant must not change what the shelf holds
        shelf.holdStep(new Step(kept.kind, kept.n, kept.colour));
        return 0;
    }

    private int keepColours(Shelf shelf, int row) {
        if (!carpet.hasRow(row)) {
            return NO_SUCH;
        }
        shelf.holdZeros(BYTES, width);
        for (int place = 0; place < width; place++) {
            shelf.elements[place] = carpet.rows[row].now[place];
        }
        return 0;
    }

    private int keepMinutes(Shelf shelf) {
        shelf.holdZeros(SHORTS, carpet.tied);
        for (int row = 0; row < carpet.tied; row++) {
            shelf.elements[row] = (short) carpet.rows[row].minutes;
        }
        return 0;
    }

    private Step stepOn(int d) {
        return isShelf(d) ? shelves[d].step : null;
    }

    private int whyNoStepOn(int d) {
        if (!isShelf(d)) {
            return NO_SUCH;
        }
        return shelves[d].kind == NOTHING ? NOTHING_HELD : OTHER_KIND;
    }

    // ---- classes inside

    /** A step of a chant; its n changes when the chant is mended. */
    private static final class Step {
        final int kind;
        final int colour;
        int n;

        Step(int kind, int n, int colour) {
            this.kind = kind;
            this.n = n;
            this.colour = colour;
        }

        boolean hasN() {
            return kind != UPTO && kind != TURN;
        }

        boolean hasColour() {
            return kind == SO || kind == UPTO;
        }

        int heft() {
            int heft = 10 + kind;
            if (hasColour()) {
                heft += colour;
            }
            if (hasN()) {
                heft += n;
            }
            switch (kind) {
                case UPTO:
                    return heft + 100;
                case TURN:
                    return heft + 1000;
                case AGAIN:
                    return 2 * (heft + 1000);
                default:
                    return heft;
            }
        }

        void fail() {
            if (hasN()) {
                throw new IllegalStateException("the failure of a step");
            }
        }
    }

    private static final class Chant {
        final ArrayList<Step> steps = new ArrayList<>();
    }

    /** Sings the chants: tells how far they come, which knots they call, how they are mended. */
    private static final class Caller {
        private final int width;
        private final Carpet carpet;
        private final ArrayList<Chant> chants = new ArrayList<>();
        private final byte[] knots = new byte[MOST_KNOTS];
        private final int[] ends = new int[MOST_STEPS];
        private int filled;
        private int begun;
        int mendStep;
        int mendN;

        Caller(int width, Carpet carpet) {
            this.width = width;
            this.carpet = carpet;
        }

        int chants() {
            return chants.size();
        }

        boolean hasChant(int chant) {
            return chant >= 0 && chant < chants.size();
        }

        boolean hasStep(int chant, int step) {
            return hasChant(chant) && step >= 0 && step < chants.get(chant).steps.size();
        }

        Step stepOf(int chant, int step) {
            return chants.get(chant).steps.get(step);
        }

        int addChant() {
            if (chants.size() >= MOST_CHANTS) {
                return FULL;
            }
            chants.add(new Chant());
            return chants.size() - 1;
        }

        int addStep(int kind, int n, int colour) {
            if (chants.isEmpty()) {
                return NONE_THERE;
            }
            ArrayList<Step> steps = chants.get(chants.size() - 1).steps;
            if (steps.size() >= MOST_STEPS) {
                return FULL;
            }
            steps.add(new Step(kind, n, colour));
            return steps.size() - 1;
        }

        /** How many knots a chant comes to when it is called for a row, or WILD. */
        int measured(int chant) {
            begun = 0;
            return measure(chant, width, 0, 0);
        }

        // How far a chant comes never hangs on colours, so mending can try many numbers cheaply.
        private int measure(int chant, int room, int before, int depth) {
            if (depth > MOST_CHANTS || !hasChant(chant)) {
                return WILD;
            }
            ArrayList<Step> steps = chants.get(chant).steps;
            int own = 0;
            for (int i = 0; i < steps.size(); i++) {
                if (begun >= MOST_BEGUN) {
                    return WILD;
                }
                begun++;
                int more = added(steps.get(i), own, room, before, depth);
                if (more < 0 || before + own + more > MOST_KNOTS) {
                    return WILD;
                }
                own += more;
                if (depth == 0 && i < ends.length) {
                    ends[i] = own;
                }
            }
            return own;
        }

        private int added(Step step, int own, int room, int before, int depth) {
            switch (step.kind) {
                case SO:
                    return step.n;
                case TURN:
                    return own;
                case AGAIN:
                    return own * step.n;
                case SING:
                    return measure(step.n, room - own, before + own, depth + 1);
                default:
                    return Math.max(0, room - own);
            }
        }

        /** Of the chant that was measured last: the knots at the end of a step of its own. */
        int endOf(int step) {
            return step >= 0 && step < ends.length ? ends[step] : 0;
        }

        /** Of the chant that was measured last: the first step at whose end a place is passed. */
        int stepThatCalled(int place) {
            for (int i = 0; i < ends.length; i++) {
                if (ends[i] > place) {
                    return i;
                }
            }
            return 0;
        }

        /** Like measured; of a chant that isn't WILD the knots can be heard then. */
        int sung(int chant) {
            int length = measured(chant);
            if (length >= 0) {
                filled = 0;
                write(chant, width, 0);
            }
            return length;
        }

        int heard(int place) {
            return place >= 0 && place < filled ? knots[place] : 0;
        }

        private void write(int chant, int room, int depth) {
            if (depth > MOST_CHANTS || !hasChant(chant)) {
                return;
            }
            ArrayList<Step> steps = chants.get(chant).steps;
            int start = filled;
            for (int i = 0; i < steps.size(); i++) {
                writeStep(steps.get(i), start, room, depth);
            }
        }

        private void writeStep(Step step, int start, int room, int depth) {
            int own = filled - start;
            switch (step.kind) {
                case SO:
                    writeColour(step.colour, step.n);
                    break;
                case UPTO:
                    writeColour(step.colour, room - own);
                    break;
                case TURN:
                    writeBackward(start, own);
                    break;
                case AGAIN:
                    writeAgain(start, own * step.n);
                    break;
                case SING:
                    write(step.n, room - own, depth + 1);
                    break;
                default:
                    writeLike(step.n, own, room);
                    break;
            }
        }

        private void writeKnot(int colour) {
            if (filled < knots.length) {
                knots[filled] = (byte) colour;
                filled++;
            }
        }

        private void writeColour(int colour, int many) {
            for (int i = 0; i < many; i++) {
                writeKnot(colour);
            }
        }

        private void writeBackward(int start, int own) {
            for (int place = own - 1; place >= 0; place--) {
                writeKnot(heard(start + place));
            }
        }

        // Reads on into what it has just written, so that all of it comes as often as it must.
        private void writeAgain(int start, int many) {
            for (int i = 0; i < many; i++) {
                writeKnot(heard(start + i));
            }
        }

        private void writeLike(int below, int own, int room) {
            for (int place = own; place < room; place++) {
                writeKnot(carpet.colourBelow(below, place));
            }
        }

        /** Looks for the least mend, told by mendStep and mendN; 0, or why there is none. */
        int findMend(int chant) {
            int length = measured(chant);
            if (length < 0) {
                return WILD;
            }
            if (length == width) {
                return NO_WAY;
            }
            int steps = chants.get(chant).steps.size();
            for (int change = 1; change < MOST_SO; change++) {
                for (int i = 0; i < steps; i++) {
                    if (isMendedBy(chant, i, -change) || isMendedBy(chant, i, change)) {
                        return 0;
                    }
                }
            }
            return NO_WAY;
        }

        private boolean isMendedBy(int chant, int step, int change) {
            Step so = stepOf(chant, step);
            if (so.kind != SO || !isWithin(so.n + change, 1, MOST_SO)) {
                return false;
            }
            int was = so.n;
            int n = was + change;
            so.n = n;
            boolean closing = measured(chant) == width;
            so.n = was;
            if (closing) {
                mendStep = step;
                mendN = n;
            }
            return closing;
        }

        void mendAsFound(int chant) {
            if (hasStep(chant, mendStep)) {
                stepOf(chant, mendStep).n = mendN;
            }
        }
    }

    /** The wool of one colour, lot by lot. */
    private static final class Wool {
        private final int[] shades = new int[MOST_LOTS];
        private final int[] left = new int[MOST_LOTS];
        private int lots;

        int addLot(int shade, int knots) {
            if (lots >= MOST_LOTS) {
                return FULL;
            }
            shades[lots] = shade;
            left[lots] = knots;
            lots++;
            return lots;
        }

        int leftInAll() {
            int sum = 0;
            for (int i = 0; i < lots; i++) {
                sum += left[i];
            }
            return sum;
        }

        /** Takes wool for one knot: its shade. */
        int take() {
            for (int i = 0; i < lots; i++) {
                if (left[i] > 0) {
                    left[i]--;
                    return shades[i];
                }
            }
            return 0;
        }
    }

    /** A tied row; made once for each number, and used again when it has been cut off. */
    private static final class Row {
        final byte[] called;
        final byte[] now;
        final byte[] shades;
        final byte[] steps;
        int minutes;

        Row(int width) {
            called = new byte[width];
            now = new byte[width];
            shades = new byte[width];
            steps = new byte[width];
        }

        void lay(int place, int colour, int shade, int step) {
            called[place] = (byte) colour;
            now[place] = (byte) colour;
            shades[place] = (byte) shade;
            steps[place] = (byte) step;
        }

        boolean isFault(int place) {
            return now[place] != called[place];
        }
    }

    private static final class Carpet {
        private final int width;
        private final int[] strips = new int[HANDS];
        private final int[] paces = new int[HANDS];
        final Wool[] wools = new Wool[COLOURS];
        final Row[] rows = new Row[MOST_ROWS];
        int tied;

        Carpet(int width) {
            this.width = width;
            for (int hand = 0; hand < HANDS; hand++) {
                strips[hand] = 8;
                paces[hand] = 5;
            }
            for (int colour = 0; colour < COLOURS; colour++) {
                wools[colour] = new Wool();
            }
            for (int row = 0; row < MOST_ROWS; row++) {
                rows[row] = new Row(width);
            }
        }

        boolean hasRow(int row) {
            return row >= 0 && row < tied;
        }

        boolean hasKnot(int row, int place) {
            return hasRow(row) && place >= 0 && place < width;
        }

        boolean setHand(int hand, int strip, int pace) {
            boolean another = strips[hand] != strip || paces[hand] != pace;
            strips[hand] = strip;
            paces[hand] = pace;
            return another;
        }

        int handAt(int place) {
            int end = 0;
            for (int hand = 0; hand < HANDS; hand++) {
                end += strips[hand];
                if (place < end) {
                    return hand;
                }
            }
            return HANDS - 1;
        }

        int colourBelow(int below, int place) {
            return hasKnot(tied - below, place) ? rows[tied - below].now[place] : 0;
        }

        /** Ties what is heard from the caller, a chant that closes. */
        int tieRow(Caller caller) {
            if (tied >= MOST_ROWS) {
                return FULL;
            }
            for (int colour = 0; colour < COLOURS; colour++) {
                if (knotsHeard(caller, colour) > wools[colour].leftInAll()) {
                    return TOO_LITTLE;
                }
            }
            // colour by colour is as good as place by place: no lot is of two colours
            for (int colour = 0; colour < COLOURS; colour++) {
                layColour(caller, colour);
            }
            rows[tied].minutes = minutesFor(rows[tied]);
            tied++;
            return tied - 1;
        }

        private int knotsHeard(Caller caller, int colour) {
            int knots = 0;
            for (int place = 0; place < width; place++) {
                if (caller.heard(place) == colour) {
                    knots++;
                }
            }
            return knots;
        }

        private void layColour(Caller caller, int colour) {
            for (int place = 0; place < width; place++) {
                if (caller.heard(place) == colour) {
                    int shade = wools[colour].take();
                    rows[tied].lay(place, colour, shade, caller.stepThatCalled(place));
                }
            }
        }

        private int minutesFor(Row row) {
            int slowest = 0;
            int knots = 0;
            int changes = 0;
            for (int place = 0; place < width; place++) {
                int hand = handAt(place);
                if (place == 0 || handAt(place - 1) != hand) {
                    knots = 0;
                    changes = 0;
                } else if (row.called[place] != row.called[place - 1]) {
                    changes++;
                }
                knots++;
                slowest = Math.max(slowest, roundedUp(knots, paces[hand]) + changes);
            }
            return slowest;
        }

        private static int roundedUp(int knots, int pace) {
            return pace < 1 ? knots : (knots + pace - 1) / pace;
        }

        int minutesInAll() {
            int sum = 0;
            for (int row = 0; row < tied; row++) {
                sum += rows[row].minutes;
            }
            return sum;
        }

        int shiftsInAll(boolean innerOnes) {
            int sum = 0;
            for (int colour = 0; colour < COLOURS; colour++) {
                sum += shiftsOf(colour, innerOnes);
            }
            return sum;
        }

        // Wool is what shifts, so a knot counts by the colour that was called, fault or none.
        private int shiftsOf(int colour, boolean innerOnes) {
            int sum = 0;
            int latestShade = -1;
            int latestRow = -1;
            for (int row = 0; row < tied; row++) {
                Row seen = rows[row];
                for (int place = 0; place < width; place++) {
                    if (seen.called[place] == colour) {
                        boolean shift = latestRow >= 0 && seen.shades[place] != latestShade;
                        if (shift && (!innerOnes || latestRow == row)) {
                            sum++;
                        }
                        latestShade = seen.shades[place];
                        latestRow = row;
                    }
                }
            }
            return sum;
        }

        int knotsBy(int hand) {
            int inRow = 0;
            for (int place = 0; place < width; place++) {
                if (handAt(place) == hand) {
                    inRow++;
                }
            }
            return inRow * tied;
        }

        int faultsBy(int hand) {
            int faults = 0;
            for (int place = 0; place < width; place++) {
                if (handAt(place) == hand) {
                    faults += faultsAt(place);
                }
            }
            return faults;
        }

        int faultsInAll() {
            int faults = 0;
            for (int place = 0; place < width; place++) {
                faults += faultsAt(place);
            }
            return faults;
        }

        private int faultsAt(int place) {
            int faults = 0;
            for (int row = 0; row < tied; row++) {
                if (rows[row].isFault(place)) {
                    faults++;
                }
            }
            return faults;
        }

        int wagesOf(int hand) {
            return Math.max(0, 5 * (knotsBy(hand) / 10) - 20 * faultsBy(hand));
        }

        int unlikeRows(int row, int other) {
            int unlike = 0;
            for (int place = 0; place < width; place++) {
                if (rows[row].now[place] != rows[other].now[place]) {
                    unlike++;
                }
            }
            return unlike;
        }

        int unlikeMirrored(int row) {
            byte[] now = rows[row].now;
            int unlike = 0;
            for (int place = 0; place < width; place++) {
                if (now[place] != now[width - 1 - place]) {
                    unlike++;
                }
            }
            return unlike;
        }
    }

    /** The villages with their tree, which grows anew with each village that comes. */
    private static final class Villages {
        private final int[] ways = new int[MOST_VILLAGES];
        private final int[] group = new int[MOST_VILLAGES];
        private final int[] leastSum = new int[1 << MOST_RIVALS];
        private final int[] leastTrees = new int[1 << MOST_RIVALS];
        final int[] links = new int[MOST_VILLAGES];
        int number;
        int linked;
        int sum;

        int add(int newWays) {
            if (number >= MOST_VILLAGES) {
                return FULL;
            }
            ways[number] = newWays;
            number++;
            growTree();
            return number - 1;
        }

        private int apart(int one, int other) {
            return Integer.bitCount(ways[one] ^ ways[other]);
        }

        private void growTree() {
            linked = 0;
            sum = 0;
            for (int v = 0; v < number; v++) {
                group[v] = v;
            }
            for (int bits = 0; bits <= WAYS; bits++) {
                for (int lesser = 0; lesser < number; lesser++) {
                    for (int other = lesser + 1; other < number; other++) {
                        if (apart(lesser, other) == bits && group[lesser] != group[other]) {
                            join(lesser, other);
                        }
                    }
                }
            }
        }

        private void join(int lesser, int other) {
            if (linked < links.length) {
                links[linked] = 10 * lesser + other;
                linked++;
            }
            sum += apart(lesser, other);
            int joined = group[other];
            for (int v = 0; v < number; v++) {
                if (group[v] == joined) {
                    group[v] = group[lesser];
                }
            }
        }

        /** How many trees have the least sum, for MOST_RIVALS villages at most: by sets of villages. */
        int rivalTrees() {
            int all = (1 << Math.min(number, MOST_RIVALS)) - 1;
            for (int set = 1; set <= all; set++) {
                leastSum[set] = 0;
                leastTrees[set] = 1;
                if (Integer.bitCount(set) > 1) {
                    splitSet(set, firstOf(set));
                }
            }
            return leastTrees[all];
        }

        private static int firstOf(int set) {
            for (int v = 0; v < MOST_RIVALS; v++) {
                if ((set & (1 << v)) != 0) {
                    return v;
                }
            }
            return 0;
        }

        // Each tree of a set is told once: by the branch at its root that has the next village, by
        // the root's link into that branch, and by what is left.
        private void splitSet(int set, int root) {
            int rest = set - (1 << root);
            int next = 1 << firstOf(rest);
            leastSum[set] = BEYOND_ALL_SUMS;
            leastTrees[set] = 0;
            for (int branch = next; branch <= rest; branch++) {
                if ((branch & rest) == branch && (branch & next) != 0) {
                    linkBranch(set, root, branch);
                }
            }
        }

        private void linkBranch(int set, int root, int branch) {
            int partSum = leastSum[branch] + leastSum[set - branch];
            int partTrees = leastTrees[branch] * leastTrees[set - branch];
            for (int v = 0; v < MOST_RIVALS; v++) {
                if ((branch & (1 << v)) != 0) {
                    addTrees(set, partSum + apart(root, v), partTrees);
                }
            }
        }

        private void addTrees(int set, int treeSum, int trees) {
            if (treeSum < leastSum[set]) {
                leastSum[set] = treeSum;
                leastTrees[set] = 0;
            }
            if (treeSum == leastSum[set]) {
                leastTrees[set] += trees;
            }
        }
    }

    /** A shelf; a row of bytes lies in the same elements as one of shorts, and kind tells which. */
    private static final class Shelf {
        final short[] elements = new short[LONGEST_MADE];
        int kind = NOTHING;
        int size;
        Step step;

        void holdNothing() {
            kind = NOTHING;
            size = 0;
            step = null;
        }

        void holdStep(Step held) {
            kind = STEP;
            size = 0;
            step = held;
        }

        void holdZeros(int rowKind, int many) {
            kind = rowKind;
            size = Math.max(0, Math.min(many, elements.length));
            step = null;
            for (int i = 0; i < size; i++) {
                elements[i] = 0;
            }
        }

        boolean holdsRow() {
            return kind == BYTES || kind == SHORTS;
        }

        boolean hasPlaces(int from, int many) {
            return many >= 0 && many <= size && from >= 0 && from <= size - many;
        }
    }
}
