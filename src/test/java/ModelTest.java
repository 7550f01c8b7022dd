import java.util.Random;

/**
 * Runs of 512 made-up calls each, the same on a KnotCaller and on the Model. The numbers are made up from the
 * run's own number, so every run of the test is the same.
 */
public final class ModelTest {
    private static final int RUNS = 700;
    private static final int CALLS = 512;

    /** How often each call comes, against the others. */
    private static final String[] OFTEN = {
        "chant 5", "step 60", "length 8", "colour 14", "closes 6", "mend 10", "mended 8", "told 14", "hand 6",
        "dye 24", "tie 60", "knot 14", "look 20", "found 20", "cut 5", "minutes 8", "shifts 10", "wool 6",
        "hands 12", "unlike 10", "side 4", "corner 4", "fits 1", "village 5", "tree 4", "link 8", "rivals 2",
        "count 10", "keep 16", "make 8", "element 24", "copy 20", "weight 8", "toss 8",
    };

    private static final int[] STRANGE = {-1, -2, 6, 7, 8, 9, 10, 11, 12, 13, 20, 21, 39, 40, 41, 60, 61, 255, 256,
        400, 401, 999, 1000, 1001, Integer.MAX_VALUE, Integer.MIN_VALUE, Integer.MAX_VALUE - 30, -40};

    private final Random made;
    private final KnotCaller x;
    private final Model model;
    private final int run;

    private ModelTest(int run) {
        this.run = run;
        made = new Random(7919L * run + 1);
        int width = run % 5 == 0 ? made.nextInt() : made.nextInt(60) - 30;
        x = new KnotCaller(width);
        model = new Model(width);
    }

    public static void main(String[] args) {
        for (int run = 0; run < RUNS; run++) {
            new ModelTest(run).go();
        }
        Checks.end();
    }

    private void go() {
        for (int i = 0; i < CALLS; i++) {
            String name = someName();
            Object[] args = someArguments(name);
            String got = Calls.answer(x, name, args);
            String want = Calls.answer(model, name, args);
            Checks.due(got, want);
            if (!got.equals(want)) {
                System.out.println("run " + run + ", call " + i + ": " + name + java.util.Arrays.toString(args));
                return;
            }
        }
    }

    private String someName() {
        int all = 0;
        for (String often : OFTEN) {
            all += times(often);
        }
        int left = made.nextInt(all);
        for (String often : OFTEN) {
            left -= times(often);
            if (left < 0) {
                return often.substring(0, often.indexOf(' '));
            }
        }
        throw new AssertionError();
    }

    private static int times(String often) {
        return Integer.parseInt(often.substring(often.indexOf(' ') + 1));
    }

    private Object[] someArguments(String name) {
        int[] plain = plainArguments(name);
        Object[] args = new Object[plain.length];
        for (int i = 0; i < plain.length; i++) {
            args[i] = made.nextInt(40) == 0 ? STRANGE[made.nextInt(STRANGE.length)] : plain[i];
        }
        return args;
    }

    private int upTo(int most) {
        return made.nextInt(most + 1);
    }

    private int from(int least, int most) {
        return least + made.nextInt(most - least + 1);
    }

    private int aChant() {
        return upTo(Math.max(0, model.count(0) - (made.nextInt(20) == 0 ? 0 : 1)));
    }

    private int aRow() {
        return upTo(Math.max(0, model.count(1) - (made.nextInt(20) == 0 ? 0 : 1)));
    }

    private int aPlace() {
        return upTo(model.count(4) - (made.nextInt(20) == 0 ? 0 : 1));
    }

    /** A chant that closes, if one is met soon. */
    private int aClosingChant() {
        int chant = aChant();
        for (int i = 0; i < 20 && model.closes(chant) != 1; i++) {
            chant = aChant();
        }
        return chant;
    }

    private int[] someStep() {
        int kind = new int[] {0, 0, 0, 0, 1, 1, 2, 3, 4, 4, 5, 5}[made.nextInt(12)];
        int most = made.nextInt(6) == 0 ? 40 : 1 + model.count(4) / 3;
        int n = kind == 0 ? from(1, most)
                : kind == 4 ? upTo(Math.max(0, model.count(0) - 2))
                : from(1, made.nextInt(4) == 0 ? 9 : 2);
        return new int[] {kind, n, upTo(made.nextInt(3) == 0 ? 7 : 2)};
    }

    private int[] someCopy() {
        int many = upTo(made.nextBoolean() ? 3 : 12);
        int d = upTo(7);
        return new int[] {d, upTo(made.nextBoolean() ? 2 : 10), made.nextBoolean() ? d : upTo(7), upTo(8), many};
    }

    private int[] someKeep() {
        int what = new int[] {0, 1, 1, 1, 2, 3, 3, 3, 4, 4}[made.nextInt(10)];
        return new int[] {upTo(7), what, what == 1 ? aChant() : aRow(), upTo(5)};
    }

    private int[] plainArguments(String name) {
        switch (name) {
            case "step": return someStep();
            case "length":
            case "closes":
            case "mended": return new int[] {aChant()};
            case "colour": return new int[] {aChant(), upTo(made.nextInt(5) == 0 ? 999 : model.count(4))};
            case "mend": return new int[] {aChant(), upTo(1)};
            case "told": return new int[] {aChant(), upTo(6), upTo(3)};
            case "hand": return new int[] {upTo(5), from(1, made.nextBoolean() ? 10 : 40), from(1, 20)};
            case "dye": return new int[] {upTo(made.nextInt(3) == 0 ? 7 : 2), upTo(9),
                from(1, made.nextInt(3) == 0 ? 1000 : 60)};
            case "tie": return new int[] {made.nextInt(8) == 0 ? aChant() : aClosingChant()};
            case "knot": return new int[] {aRow(), aPlace()};
            case "look": return new int[] {aRow(), aPlace(), upTo(4)};
            case "found": return new int[] {aRow(), aPlace(), upTo(7)};
            case "minutes": return new int[] {aRow()};
            case "shifts": return new int[] {upTo(1)};
            case "wool": return new int[] {upTo(7)};
            case "hands": return new int[] {upTo(5), upTo(2)};
            case "unlike": return new int[] {aRow(), made.nextBoolean() ? -1 : aRow()};
            case "side": return new int[] {from(1, 400), from(1, 40), from(1, 40)};
            case "corner": return new int[] {from(1, 60), from(1, 60), from(1, 12), from(1, 12)};
            case "fits": return new int[] {from(1, 400), from(1, 40), from(1, 40)};
            case "village": return new int[] {upTo(run % 2 == 0 ? 255 : 15)};
            case "link": return new int[] {upTo(7)};
            case "count": return new int[] {upTo(5)};
            case "keep": return someKeep();
            case "make": return new int[] {upTo(7), from(3, 4), upTo(20)};
            case "element": return new int[] {upTo(7), upTo(8)};
            case "copy": return someCopy();
            case "weight":
            case "toss": return new int[] {upTo(7)};
            default: return new int[0];
        }
    }
}
