import java.util.ArrayList;
import java.util.List;

/** "A refused call changes nothing", for each call of the face and each refusal that it has. */
final class RefusalEdges {
    private static final String LARGEST = " " + Integer.MAX_VALUE;
    private static final String LEAST = " " + Integer.MIN_VALUE;

    private static final Unchanged NEW = new Unchanged(6);
    private static final Unchanged SOME = new Unchanged(6,
            "hand 0 3 2", "hand 2 4 7", "hand 5 1 1",
            // 0 closes, 1 is open, 2 is wild, 3 can't be mended, 4 is like the row below, 5 has each kind
            "chant", "step 0 2 1", "step 0 3 2", "step 2 0 0",
            "chant", "step 0 3 1", "step 0 3 2", "step 0 3 3",
            "chant", "step 0 40 1", "step 3 9 0", "step 3 9 0",
            "chant", "step 1 0 2", "step 2 0 0",
            "chant", "step 0 1 0", "step 5 1 0",
            "chant", "step 0 2 5", "step 1 0 6", "step 2 0 0", "step 3 4 0", "step 4 0 0", "step 5 3 0",
            "dye 0 0 3", "dye 1 3 6", "dye 1 4 8", "dye 2 1 7", "dye 2 2 100",
            "tie 0", "tie 4", "tie 0", "found 0 3 5", "found 2 9 0",
            "village 0", "village 3", "village 5",
            "keep 1 1 0 0", "keep 2 1 0 2", "keep 3 3 0 0", "keep 4 4 0 0", "make 5 3 0", "keep 6 1 5 1", "make 7 4 5");
    private static final Unchanged FULL = new Unchanged(0, full());

    private RefusalEdges() {
    }

    /** As many chants, steps, lots, rows and villages as there can be; no wool is left but of colour 2. */
    private static String[] full() {
        List<String> made = new ArrayList<>(List.of("hand 0 1 3", "chant", "step 0 3 1", "chant", "step 0 4 1"));
        for (int chant = 2; chant < 12; chant++) {
            made.add("chant");
        }
        for (int step = 0; step < 12; step++) {
            made.add("step 2 0 0");
        }
        for (int lot = 0; lot < 10; lot++) {
            made.add("dye 1 " + lot + " 16");
            made.add("dye 2 " + lot + " 16");
        }
        for (int row = 0; row < 40; row++) {
            made.add("tie 1");
        }
        for (int village = 0; village < 8; village++) {
            made.add("village " + 11 * village);
        }
        made.addAll(List.of("found 39 3 2", "keep 0 3 39 0", "keep 1 4 0 0", "make 2 3 60", "keep 3 1 11 11"));
        return made.toArray(new String[0]);
    }

    @Says("A refused call changes nothing.")
    static void p02_chant() {
        FULL.by(-2, "chant");
    }

    @Says("A refused call changes nothing.")
    static void p03_step() {
        NEW.by(-3, "step 0 1 1", "step 2 0 0");
        NEW.by(-1, "step 6 1 1", "step 4 0 0");
        SOME.by(-1, "step -1 1 1", "step 6 1 1", "step 0 0 1", "step 0 41 1", "step 0 1 -1", "step 0 1 8",
                "step 1 1 -1", "step 1 1 8", "step 3 0 0", "step 3 10 0", "step 5 0 0", "step 5 10 0",
                "step 4 -1 0", "step 4 5 0", "step 4 6 0", "step 0" + LARGEST + " 1", "step" + LEAST + " 1 1");
        FULL.by(-2, "step 0 1 1", "step 4 0 0", "step 2 0 0");
        FULL.by(-1, "step 4 11 0", "step 0 41 1");
    }

    @Says("A refused call changes nothing.")
    static void p04_length() {
        NEW.by(-1, "length 0", "length -1");
        SOME.by(-1, "length -1", "length 6", "length" + LARGEST);
        SOME.by(-6, "length 2");
    }

    @Says("A refused call changes nothing.")
    static void p05_colour() {
        NEW.by(-1, "colour 0 0");
        SOME.by(-1, "colour -1 0", "colour 6 0");
        SOME.by(-6, "colour 2 0");
        SOME.by(-4, "colour 0 -1", "colour 0 10", "colour 1 9", "colour 3 20");
    }

    @Says("A refused call changes nothing.")
    static void p06_closes() {
        NEW.by(-1, "closes 0");
        SOME.by(-1, "closes -1", "closes 6");
        SOME.by(-6, "closes 2");
    }

    @Says("A refused call changes nothing.")
    static void p07_mend() {
        NEW.by(-1, "mend 0 0");
        SOME.by(-1, "mend -1 0", "mend 6 1", "mend 1 -1", "mend 1 2");
        SOME.by(-4, "mend 0 0", "mend 0 1", "mend 3 0", "mend 4 1");
        SOME.by(-6, "mend 2 0", "mend 2 1");
    }

    @Says("A refused call changes nothing.")
    static void p08_mended() {
        NEW.by(-1, "mended 0");
        SOME.by(-1, "mended -1", "mended 6");
        SOME.by(-4, "mended 0", "mended 3", "mended 4", "mended 5");
        SOME.by(-6, "mended 2");
        FULL.by(-4, "mended 1", "mended 5", "mended 11");
    }

    @Says("A refused call changes nothing.")
    static void p09_told() {
        NEW.by(-1, "told 0 0 0");
        SOME.by(-1, "told -1 0 0", "told 6 0 0", "told 0 -1 0", "told 0 3 0", "told 0 0 -1", "told 0 0 4");
        SOME.by(-2, "told 5 1 1", "told 5 2 1", "told 5 2 2", "told 5 3 2", "told 5 4 2", "told 5 5 2");
        SOME.by(-6, "told 2 0 3", "told 2 2 3");
    }

    @Says("A refused call changes nothing.")
    static void p10_hand() {
        NEW.by(-1, "hand -1 9 6", "hand 6 9 6", "hand 0 0 6", "hand 0 41 6", "hand 0 9 0", "hand 0 9 21");
        SOME.by(-1, "hand 0 0 6", "hand 0 9 21");
        SOME.by(-3, "hand 0 9 6", "hand 5 8 5");
        FULL.by(-3, "hand 0 40 20");
    }

    @Says("A refused call changes nothing.")
    static void p11_dye() {
        NEW.by(-1, "dye -1 0 5", "dye 8 0 5", "dye 0 -1 5", "dye 0 10 5", "dye 0 0 0", "dye 0 0 1001");
        SOME.by(-1, "dye 8 0 5", "dye 1 10 5", "dye 1 0 1001");
        FULL.by(-2, "dye 1 5 100", "dye 2 5 1");
        FULL.by(-1, "dye 1 5 0");
    }

    @Says("A refused call changes nothing.")
    static void p12_tie() {
        NEW.by(-1, "tie 0");
        SOME.by(-1, "tie -1", "tie 6");
        SOME.by(-6, "tie 2");
        SOME.by(-4, "tie 1", "tie 3", "tie 5");
        FULL.by(-2, "tie 1");
        FULL.by(-4, "tie 0");
        FULL.by(-1, "tie 12");
    }

    @Says("A refused call changes nothing.")
    static void p12_tieWithoutWool() {
        // colour 0 has a knot too little, colour 7 none; the others have enough
        Unchanged little = new Unchanged(0, "chant", "step 0 1 1", "step 0 1 2", "step 0 2 0",
                "chant", "step 0 3 1", "step 0 1 7", "chant", "step 0 4 1", "dye 1 1 2", "dye 1 2 20", "dye 2 3 20",
                "dye 0 4 1", "tie 2");
        little.by(-5, "tie 0", "tie 1");
        new Unchanged(0, "chant", "step 0 4 1").by(-5, "tie 0");
    }

    @Says("A refused call changes nothing.")
    static void p13_knot() {
        NEW.by(-1, "knot 0 0");
        SOME.by(-1, "knot -1 0", "knot 3 0", "knot 0 -1", "knot 0 10");
    }

    @Says("A refused call changes nothing.")
    static void p14_look() {
        NEW.by(-1, "look 0 0 0");
        SOME.by(-1, "look -1 0 0", "look 3 0 0", "look 0 -1 0", "look 0 10 0", "look 0 0 -1", "look 0 0 5");
    }

    @Says("A refused call changes nothing.")
    static void p15_found() {
        NEW.by(-1, "found 0 0 0");
        SOME.by(-1, "found -1 0 7", "found 3 0 7", "found 0 -1 7", "found 0 10 7", "found 0 0 -1", "found 0 0 8",
                "found 0 3 8", "found 2 0" + LARGEST);
        FULL.by(-1, "found 40 0 7", "found 39 4 7", "found 39 3 8");
    }

    @Says("A refused call changes nothing.")
    static void p16_cut() {
        NEW.by(-3, "cut");
        new Unchanged(0, "hand 0 3 3", "chant", "step 0 4 1", "dye 1 1 20", "tie 0", "cut").by(-3, "cut");
    }

    @Says("A refused call changes nothing.")
    static void p17_minutes() {
        NEW.by(-1, "minutes 0");
        SOME.by(-1, "minutes -1", "minutes 3");
    }

    @Says("A refused call changes nothing.")
    static void p18_shifts() {
        NEW.by(-1, "shifts 2");
        SOME.by(-1, "shifts -1", "shifts 2");
    }

    @Says("A refused call changes nothing.")
    static void p19_wool() {
        NEW.by(-1, "wool 8");
        SOME.by(-1, "wool -1", "wool 8");
    }

    @Says("A refused call changes nothing.")
    static void p20_hands() {
        NEW.by(-1, "hands 6 0");
        SOME.by(-1, "hands -1 0", "hands 6 0", "hands 0 -1", "hands 0 3");
    }

    @Says("A refused call changes nothing.")
    static void p21_unlike() {
        NEW.by(-1, "unlike 0 0", "unlike 0 -1");
        SOME.by(-1, "unlike -1 0", "unlike 3 0", "unlike 0 -2", "unlike 0 3", "unlike 3 -1");
    }

    @Says("A refused call changes nothing.")
    static void p22_side() {
        SOME.by(-1, "side 0 1 2", "side 401 1 2", "side 5 0 2", "side 5 1 41", "side 5 2 2");
        SOME.by(-4, "side 5 3 4");
    }

    @Says("A refused call changes nothing.")
    static void p23_corner() {
        SOME.by(-1, "corner 0 6 3 4", "corner 6 401 3 4", "corner 6 6 3 3", "corner 6 6 41 3");
        SOME.by(-4, "corner 5 6 3 4", "corner 6 5 3 4");
    }

    @Says("A refused call changes nothing.")
    static void p24_fits() {
        SOME.by(-1, "fits 0 3 4", "fits 401 3 4", "fits 5 3 3", "fits 5 0 3");
        SOME.by(-4, "fits 391 39 38");
    }

    @Says("A refused call changes nothing.")
    static void p25_village() {
        NEW.by(-1, "village -1", "village 256");
        SOME.by(-1, "village -1", "village 256", "village" + LARGEST);
        FULL.by(-2, "village 0", "village 255");
        FULL.by(-1, "village 256");
    }

    @Says("A refused call changes nothing.")
    static void p26_tree() {
        NEW.by(-3, "tree");
    }

    @Says("A refused call changes nothing.")
    static void p27_link() {
        NEW.by(-3, "link 0");
        NEW.by(-1, "link -1");
        SOME.by(-3, "link 2", "link" + LARGEST);
        SOME.by(-1, "link -1");
        FULL.by(-3, "link 7");
    }

    @Says("A refused call changes nothing.")
    static void p28_rivals() {
        NEW.by(-3, "rivals");
        FULL.by(-5, "rivals");
    }

    @Says("A refused call changes nothing.")
    static void p29_count() {
        NEW.by(-1, "count 6");
        SOME.by(-1, "count -1", "count 6");
    }

    @Says("A refused call changes nothing.")
    static void p30_keep() {
        NEW.by(-1, "keep 0 1 0 0", "keep 0 3 0 0", "keep 8 0 0 0", "keep 0 2 0 0");
        for (int d = 0; d < 8; d++) {
            SOME.by(-1, "keep " + d + " 2 0 0", "keep " + d + " -1 0 0", "keep " + d + " 5 0 0",
                    "keep " + d + " 1 6 0", "keep " + d + " 1 0 3", "keep " + d + " 1 0 -1", "keep " + d + " 1 -1 0",
                    "keep " + d + " 3 3 0", "keep " + d + " 3 -1 0");
        }
        SOME.by(-1, "keep -1 0 0 0", "keep 8 0 0 0", "keep 8 1 0 0", "keep -1 3 0 0", "keep 8 4 0 0");
    }

    @Says("A refused call changes nothing.")
    static void p31_make() {
        NEW.by(-1, "make 8 3 5", "make 0 2 5", "make 0 3 61");
        NEW.by(-14, "make 0 3 -1");
        for (int d = 0; d < 8; d++) {
            SOME.by(-1, "make " + d + " 2 5", "make " + d + " 5 5", "make " + d + " 3 61", "make " + d + " 4" + LARGEST);
            SOME.by(-14, "make " + d + " 3 -1", "make " + d + " 4" + LEAST);
        }
        SOME.by(-1, "make -1 3 5", "make 8 4 5");
    }

    @Says("A refused call changes nothing.")
    static void p32_element() {
        String noShelf = "throws.IllegalArgumentException";
        String noElement = "throws.IllegalStateException";
        NEW.by("element 0 0", noElement);
        SOME.by("element -1 0", noShelf);
        SOME.by("element 8 0", noShelf);
        SOME.by("element 0 0", noElement);
        SOME.by("element 1 0", noElement);
        SOME.by("element 3 -1", noElement);
        SOME.by("element 3 10", noElement);
        SOME.by("element 4 3", noElement);
        SOME.by("element 5 0", noElement);
    }

    @Says("A refused call changes nothing.")
    static void p33_copy() {
        NEW.by(-11, "copy 0 0 0 0 0");
        NEW.by(-1, "copy 8 0 0 0 0");
        SOME.by(-1, "copy -1 0 3 0 1", "copy 3 0 8 0 1");
        SOME.by(-11, "copy 0 0 3 0 1", "copy 3 0 0 0 1");
        SOME.by(-12, "copy 1 0 3 0 1", "copy 3 0 1 0 1", "copy 3 0 4 0 1", "copy 4 0 3 0 1", "copy 1 0 2 0 0");
        SOME.by(-13, "copy 3 0 3 1 10", "copy 3 1 3 0 10", "copy 3 -1 3 0 1", "copy 3 0 3 -1 1", "copy 3 0 3 1 -1",
                "copy 3 0 5 0 1", "copy 5 0 3 0 1", "copy 4 0 7 3 3", "copy 7 0 4 0 4", "copy 7 0 4 1 3",
                "copy 3 1 3 0" + LARGEST);
    }

    @Says("A refused call changes nothing.")
    static void p34_weight() {
        NEW.by(-11, "weight 0");
        SOME.by(-1, "weight -1", "weight 8");
        SOME.by(-11, "weight 0");
        SOME.by(-12, "weight 3", "weight 4", "weight 5");
    }

    @Says("A refused call changes nothing.")
    static void p35_toss() {
        NEW.by(-11, "toss 0");
        SOME.by(-1, "toss -1", "toss 8");
        SOME.by(-11, "toss 0");
        SOME.by(-12, "toss 3", "toss 4", "toss 7");
        SOME.by(-15, "toss 2", "toss 6");
    }
}
