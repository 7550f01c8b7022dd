/** What many tests begin with: carpets, wool, chants. */
final class Given {
    static final int SO = 0;
    static final int UPTO = 1;
    static final int TURN = 2;
    static final int AGAIN = 3;
    static final int SING = 4;
    static final int LIKE = 5;

    private Given() {
    }

    /** A carpet W knots wide. */
    static KnotCaller wide(int w) {
        return new KnotCaller(w - 4);
    }

    /** A carpet W knots wide with 2000 knots of wool of each colour, of a shade with the colour's number. */
    static KnotCaller wideWithWool(int w) {
        KnotCaller x = wide(w);
        for (int colour = 0; colour < 8; colour++) {
            x.dye(colour, colour, 1000);
            x.dye(colour, colour, 1000);
        }
        return x;
    }

    /** Adds a chant of steps told three numbers each; answers its number. */
    static int sing(KnotCaller x, int... steps) {
        int number = x.chant();
        for (int i = 0; i < steps.length; i += 3) {
            Checks.due(x.step(steps[i], steps[i + 1], steps[i + 2]), i / 3);
        }
        return number;
    }

    /** Adds a chant of the same step many times; answers its number. */
    static int singMany(KnotCaller x, int many, int kind, int n) {
        int number = x.chant();
        for (int i = 0; i < many; i++) {
            Checks.due(x.step(kind, n, 0), i);
        }
        return number;
    }

    /** Ties one chant as many times. */
    static void tieMany(KnotCaller x, int chant, int times) {
        for (int i = 0; i < times; i++) {
            x.tie(chant);
        }
    }

    /** The colours of a chant that isn't wild, one behind the other. */
    static String colours(KnotCaller x, int chant) {
        StringBuilder text = new StringBuilder();
        int length = x.length(chant);
        for (int i = 0; i < length; i++) {
            text.append(x.colour(chant, i));
        }
        return text.toString();
    }

    /** The elements of the row on a shelf, with a space behind each. */
    static String elements(KnotCaller x, int d) {
        StringBuilder text = new StringBuilder();
        for (int i = 0; i < 70; i++) {
            String got = Checks.element(x, d, i);
            if (got.startsWith("Illegal")) {
                break;
            }
            text.append(got).append(' ');
        }
        return text.toString().trim();
    }
}
