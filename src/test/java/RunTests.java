import java.util.Arrays;
import java.util.Random;

/**
 * Runs of 512 drawn calls, all calls of the face mixed, right and wrong ones, on new objects and
 * new Models: what one call leaves in the rows that are used again must not show in another.
 */
final class RunTests {
    private static final int CALLS_OF_A_RUN = 512;
    private static final int RUNS = 160;

    /** Each call with the kinds of its arguments; twice or more: drawn so much more often. */
    private static final String[] CALLS = {
        "length order", "holds order pattern", "where order pattern", "times order pattern",
        "turned order turn", "least order", "sum pattern pattern flag", "put pattern few pattern",
        "without order few", "spans order", "parts order which", "simple size",
        "shape order few", "alike counted",
        "make place kind told", "make place kind told", "make place kind told",
        "add place pattern", "add place pattern", "add place pattern", "add place pattern",
        "add place pattern", "add place pattern", "thin place", "thin place", "look place few",
        "look place few", "in place order", "in place order", "count place size",
        "count place size", "ranked place size rank", "ranked place size rank",
        "rank place counted", "rank place counted", "next place counted", "next place counted",
        "outer place few", "outer place few", "kids place counted", "kids place counted",
        "same place place", "same place place", "like place place", "like place place",
        "turnedClass place turn place", "turnedClass place turn place",
        "mean pattern size bit", "all place walked pattern", "all place walked pattern",
        "most pattern walked", "packed pattern walked", "merges order pattern pattern",
        "rows order flag", "keep shelf what place order", "keep shelf what place order",
        "keep shelf what place order", "row shelf rowKind length", "row shelf rowKind length",
        "element shelf few", "element shelf few", "copy shelf few shelf few few",
        "copy shelf few shelf few few", "copy shelf few shelf few few", "read shelf",
        "read shelf", "weight shelf", "weight shelf", "toss shelf"};

    private final Checks checks;
    private Random random = new Random();
    private int longest;

    RunTests(Checks checks) {
        this.checks = checks;
    }

    void run() throws Exception {
        for (int seed = 0; seed < RUNS; seed++) {
            random = new Random(seed);
            // Long ORDERS are slow in the Model, so that few runs count them.
            longest = seed % 20 == 0 ? 8 : 5;
            run(seed);
        }
    }

    private void run(int seed) throws Exception {
        OrderPatterns x = new OrderPatterns();
        Model model = new Model();
        boolean right = true;
        for (int call = 0; call < CALLS_OF_A_RUN && right; call++) {
            String[] words = CALLS[below(CALLS.length)].split(" ");
            int[] arguments = new int[words.length - 1];
            for (int i = 0; i < arguments.length; i++) {
                arguments[i] = drawn(words[i + 1]);
            }
            if (words[0].equals("merges") && below(4) > 0) {
                unmerge(arguments);
            }
            long got = Calls.answerOf(x, words[0], arguments);
            long want = Calls.answerOf(model, words[0], arguments);
            checks.due("run " + seed + " call " + call + ": " + words[0]
                    + Arrays.toString(arguments), got, want);
            right = got == want;
        }
    }

    /** Two rows of which the ORDER is merged: drawn ones would next to never be. */
    private void unmerge(int[] arguments) {
        int[] row = Model.row(arguments[0]);
        if (row != null) {
            int places = below(1 << row.length);
            arguments[1] = Model.standing(Model.chosen(row, places));
            arguments[2] = Model.standing(Model.chosen(row, ~places));
        }
    }

    private int below(int bound) {
        return random.nextInt(bound);
    }

    private int drawn(String kind) {
        if (kind.equals("flag")) {
            return below(2);
        }
        if (below(30) == 0) {
            return wild();
        }
        switch (kind) {
            case "order":
                return order(9);
            case "pattern":
                return order(below(4) == 0 ? 9 : 5);
            case "counted":
                return order(longest);
            case "place":
                return below(4) == 0 ? below(12) : below(4);
            case "shelf":
                return below(6);
            case "length":
                return below(8) == 0 ? 58 + below(4) : below(13) - 1;
            case "kind":
                return below(3) == 0 ? below(4) : below(2);
            case "told":
                return below(5) == 0 ? below(100) - 5 : 1 + below(8);
            case "turn":
                return below(8);
            case "which":
                return below(12);
            case "size":
                return below(longest + 1);
            case "walked":
                return below(Math.min(longest, 7) + 1);
            case "rank":
                return below(3) == 0 ? below(800) : below(25);
            case "what":
                return below(5);
            case "rowKind":
                return 3 + below(2);
            case "bit":
                return below(2);
            case "few":
                return below(3) == 0 ? below(10) : below(5);
            default:
                throw new IllegalArgumentException(kind);
        }
    }

    private int wild() {
        int[] found = {-1, -2, 6, 8, 9, 10, 11, 12, 13, 24, 61, 99, 122, 987654320, 1234567890,
            Integer.MIN_VALUE, Integer.MAX_VALUE};
        return found[below(found.length)];
    }

    private int order(int atMost) {
        return DefinitionTests.drawn(random, below(atMost + 1));
    }
}
