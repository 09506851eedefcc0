import java.util.Arrays;

/**
 * Every call with each of its arguments at, and one beyond, every bound that the document names,
 * in all combinations, compared with the Model; and what both tell afterwards.
 */
final class EdgeTests {
    private static final int LEAST = Integer.MIN_VALUE;
    private static final int GREATEST = Integer.MAX_VALUE;

    private static final int[] ORDERS = {LEAST, -1, 0, 1, 2, 10, 11, 12, 21, 231, 2413, 54321,
        1234567, 12345678, 87654321, 123456789, 987654321, 1234567890, GREATEST};
    private static final int[] SOME_ORDERS = {-1, 0, 1, 11, 12, 321, 12345678, 987654321,
        1234567890};
    private static final int[] INDICES = {LEAST, -1, 0, 1, 2, 5, 8, 9, 10, 59, 60, 61, GREATEST};
    private static final int[] SIZES = {LEAST, -1, 0, 1, 5, 6, 7, 8, 9, 10, GREATEST};
    private static final int[] TURNS = {LEAST, -1, 0, 1, 4, 7, 8, GREATEST};
    private static final int[] KINDS = {LEAST, -1, 0, 1, 2, 3, 4, 5, GREATEST};
    private static final int[] TOLD = {LEAST, -1, 0, 1, 2, 3, 4, 39, 40, 80, 81, 121, GREATEST};
    private static final int[] PLACES = {LEAST, -1, 0, 1, 2, 3, 4, 5, 6, 11, 12, GREATEST};
    private static final int[] SHELVES = {LEAST, -1, 0, 1, 2, 3, 4, 5, 6, GREATEST};
    private static final int[] COPIED = {LEAST, -1, 0, 1, 3, 4, 5, 9, 10, GREATEST};
    private static final int[] NO_YES = {0, 1};

    /** What is told of both takes some 200 calls more, and an object has 512 in all. */
    private static final int CALLS_AT_MOST = 260;

    private final Checks checks;
    private OrderPatterns x = new OrderPatterns();
    private Model model = new Model();
    private int calls;

    EdgeTests(Checks checks) {
        this.checks = checks;
    }

    void run() throws Exception {
        for (String one : new String[] {"length", "least", "spans", "alike"}) {
            allOf(one, ORDERS);
        }
        for (String two : new String[] {"holds", "where", "times"}) {
            allOf(two, ORDERS, ORDERS);
        }
        allOf("turned", ORDERS, TURNS);
        allOf("sum", ORDERS, ORDERS, NO_YES);
        allOf("put", ORDERS, INDICES, SOME_ORDERS);
        allOf("without", ORDERS, INDICES);
        allOf("parts", ORDERS, new int[] {LEAST, -1, 0, 1, 2, 3, 4, 5, 10, 11, 12, GREATEST});
        allOf("simple", SIZES);
        allOf("shape", ORDERS, INDICES);
        classes();
        allOf("mean", ORDERS, SIZES, new int[] {LEAST, -1, 0, 1, 2, GREATEST});
        allOf("most", ORDERS, SIZES);
        allOf("packed", ORDERS, SIZES);
        allOf("merges", ORDERS, SOME_ORDERS, SOME_ORDERS);
        allOf("rows", ORDERS, NO_YES);
        shelves();
    }

    private void classes() throws Exception {
        allOf("make", PLACES, KINDS, TOLD);
        allOf("add", PLACES, ORDERS);
        allOf("thin", PLACES);
        allOf("look", PLACES, INDICES);
        allOf("in", PLACES, ORDERS);
        allOf("count", PLACES, SIZES);
        allOf("ranked", PLACES, SIZES, INDICES);
        allOf("rank", PLACES, ORDERS);
        allOf("next", PLACES, ORDERS);
        allOf("outer", PLACES, INDICES);
        allOf("kids", PLACES, ORDERS);
        allOf("same", PLACES, PLACES);
        allOf("like", PLACES, PLACES);
        allOf("turnedClass", PLACES, TURNS, PLACES);
        allOf("all", PLACES, new int[] {-1, 0, 1, 6, 7, 8, GREATEST}, SOME_ORDERS);
    }

    private void shelves() throws Exception {
        allOf("keep", SHELVES, KINDS, PLACES, SOME_ORDERS);
        allOf("row", SHELVES, KINDS, INDICES);
        allOf("element", SHELVES, INDICES);
        for (int d : SHELVES) {
            allOf("copy", new int[] {d}, COPIED, new int[] {-1, 0, 1, 2, 4, 5, 6}, COPIED, COPIED);
        }
        allOf("read", SHELVES);
        allOf("weight", SHELVES);
        allOf("toss", SHELVES);
    }

    /** All KINDS, an empty and a full list of PATTERNS; on shelves all that they can hold. */
    private void lay() throws Exception {
        x = new OrderPatterns();
        model = new Model();
        calls = 0;
        both("make", 0, 0, 0);
        both("make", 1, 1, 0);
        both("make", 2, 2, 2);
        both("make", 3, 3, 7);
        both("make", 4, 0, 0);
        for (int pattern : new int[] {21, 12, 2413, 12345678, 1, 54321}) {
            both("add", 4, pattern);
        }
        both("add", 1, 231);
        both("make", 5, 0, 0);
        both("add", 5, 231);
        both("add", 5, 4321);
        both("keep", 0, 3, 0, 2413);
        both("keep", 1, 4, 5, 0);
        both("row", 2, 3, 10);
        both("keep", 3, 1, 3, 0);
        both("row", 4, 4, 9);
    }

    private void allOf(String name, int[]... choices) throws Exception {
        lay();
        int[] arguments = new int[choices.length];
        combine(name, choices, arguments, 0);
        told(name);
    }

    private void combine(String name, int[][] choices, int[] arguments, int i) throws Exception {
        if (i == choices.length) {
            long answer = both(name, arguments);
            boolean changes = answer >= 0 && Arrays.asList("make", "add", "thin", "turnedClass",
                    "keep", "row").contains(name);
            if (changes || calls >= CALLS_AT_MOST) {
                told(name + Arrays.toString(arguments));
                lay();
            }
            return;
        }
        for (int choice : choices[i]) {
            arguments[i] = choice;
            combine(name, choices, arguments, i + 1);
        }
    }

    private void told(String after) throws Exception {
        String before = " after " + after + ": ";
        for (int place = 0; place < 12; place++) {
            for (int what = 0; what < 8; what++) {
                checks.due("look" + before, x.look(place, what), model.look(place, what));
            }
            checks.due("count" + before, x.count(place, 4), model.count(place, 4));
        }
        for (int d = 0; d < 6; d++) {
            for (int i = 0; i <= 10; i++) {
                checks.due("element" + before, Calls.answerOf(x, "element", d, i),
                        Calls.answerOf(model, "element", d, i));
            }
            checks.due("weight" + before, x.weight(d), model.weight(d));
            checks.due("toss" + before, x.toss(d), model.toss(d));
            checks.due("read" + before, x.read(d), model.read(d));
        }
    }

    private long both(String name, int... arguments) throws Exception {
        calls++;
        long answer = Calls.answerOf(x, name, arguments);
        checks.due(name + Arrays.toString(arguments), answer, Calls.answerOf(model, name, arguments));
        return answer;
    }
}
