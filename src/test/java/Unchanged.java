import java.util.ArrayList;
import java.util.Arrays;
import java.util.List;

/**
 * Whether a refused call changes nothing: two objects are made by the same calls, one of them meets the refused
 * call, too, and then both are asked for all that the face tells, and for what later changes answer. As an object
 * is good for 512 calls, the questions are asked of as many pairs of objects as it takes.
 */
final class Unchanged {
    private static final int MOST_CALLS = 512;

    private final int width;
    private final List<String> made;
    private final List<List<String>> questions = new ArrayList<>();
    private final List<List<String>> due = new ArrayList<>();

    Unchanged(int width, String... made) {
        this.width = width;
        this.made = Arrays.asList(made);
        List<String> quiet = quietQuestions(fresh());
        int room = MOST_CALLS - made.length - 1;
        for (int from = 0; from < quiet.size(); from += room) {
            questions.add(quiet.subList(from, Math.min(quiet.size(), from + room)));
        }
        questions.add(changes());
        for (List<String> some : questions) {
            due.add(answers(fresh(), some));
        }
    }

    private KnotCaller fresh() {
        KnotCaller x = new KnotCaller(width);
        for (String call : made) {
            Calls.answer(x, call);
        }
        return x;
    }

    private static List<String> answers(KnotCaller x, List<String> questions) {
        List<String> answers = new ArrayList<>();
        for (String question : questions) {
            answers.add(Calls.answer(x, question));
        }
        return answers;
    }

    /** The call is refused as it is due, and nothing is changed by it. */
    void by(String refusedCall, String refusal) {
        for (int i = 0; i < questions.size(); i++) {
            KnotCaller x = fresh();
            Checks.due(Calls.answer(x, refusedCall), refusal);
            List<String> answers = answers(x, questions.get(i));
            for (int q = 0; q < answers.size(); q++) {
                if (!answers.get(q).equals(due.get(i).get(q))) {
                    Checks.fail("behind " + refusedCall + ", " + questions.get(i).get(q) + " answered "
                            + answers.get(q) + ", due is " + due.get(i).get(q));
                }
            }
        }
    }

    void by(int refusal, String... refusedCalls) {
        for (String call : refusedCalls) {
            by(call, Integer.toString(refusal));
        }
    }

    /** All that can be asked without changing anything. */
    private static List<String> quietQuestions(KnotCaller x) {
        List<String> all = new ArrayList<>();
        for (int what = 0; what < 6; what++) {
            all.add("count " + what);
        }
        for (int chant = 0; chant < x.count(0); chant++) {
            askOfChant(all, chant, x.count(4));
        }
        for (int row = 0; row < x.count(1); row++) {
            askOfRow(all, row, x.count(4));
        }
        for (int colour = 0; colour < 8; colour++) {
            all.add("wool " + colour);
        }
        for (int hand = 0; hand < 6; hand++) {
            for (int what = 0; what < 3; what++) {
                all.add("hands " + hand + " " + what);
            }
        }
        all.addAll(List.of("shifts 0", "shifts 1", "tree", "rivals"));
        for (int link = 0; link < 8; link++) {
            all.add("link " + link);
        }
        for (int d = 0; d < 8; d++) {
            askOfShelf(all, d);
        }
        return all;
    }

    private static void askOfChant(List<String> all, int chant, int w) {
        all.addAll(List.of("length " + chant, "closes " + chant, "mend " + chant + " 0", "mend " + chant + " 1"));
        for (int step = 0; step <= 12; step++) {
            for (int what = 0; what < 4; what++) {
                all.add("told " + chant + " " + step + " " + what);
            }
        }
        for (int place = 0; place <= w; place++) {
            all.add("colour " + chant + " " + place);
        }
    }

    private static void askOfRow(List<String> all, int row, int w) {
        all.addAll(List.of("minutes " + row, "unlike " + row + " -1", "unlike 0 " + row));
        for (int place = 0; place < w; place++) {
            all.add("knot " + row + " " + place);
            for (int what = 0; what < 5; what++) {
                all.add("look " + row + " " + place + " " + what);
            }
        }
    }

    private static void askOfShelf(List<String> all, int d) {
        all.add("weight " + d);
        all.add("toss " + d);
        for (int i = 0; i <= 60; i++) {
            all.add("element " + d + " " + i);
        }
        for (int e = 0; e < 8; e++) {
            all.add("copy " + d + " 0 " + e + " 0 0");
        }
    }

    /** What changes answer: numbers that come next, wool and hands as they are found. */
    private static List<String> changes() {
        List<String> all = new ArrayList<>();
        for (int hand = 0; hand < 6; hand++) {
            all.add("hand " + hand + " 8 5");
        }
        for (int colour = 0; colour < 8; colour++) {
            all.add("dye " + colour + " 6 40");
        }
        all.addAll(List.of("step 0 1 1", "step 1 0 1", "village 1", "tree", "chant", "step 1 0 1", "step 4 0 1"));
        for (int chant = 0; chant < 12; chant++) {
            all.add("tie " + chant);
            all.add("shifts 0");
        }
        for (int cut = 0; cut < 41; cut++) {
            all.add("cut");
        }
        for (int hand = 0; hand < 6; hand++) {
            all.add("hand " + hand + " 8 5");
        }
        return all;
    }
}
