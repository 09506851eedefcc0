import java.util.ArrayList;
import java.util.List;
import java.util.Random;

/** Compares the answers about orders alone, and of all numbers of patterns, with the Model's. */
final class DefinitionTests {
    private final Checks checks;
    private final OrderPatterns x = new OrderPatterns();
    private final Model model = new Model();

    DefinitionTests(Checks checks) {
        this.checks = checks;
    }

    void run() {
        numbersThatAreNoOrders();
        for (int order : orders()) {
            alone(order);
        }
        pairs();
        patternNumbers();
        shapesByLongestUnions();
    }

    /** All ORDERS of n 0 .. 6, and some of n 7 .. 9. */
    private static List<Integer> orders() {
        List<Integer> found = new ArrayList<>();
        for (int n = 0; n <= 6; n++) {
            found.addAll(Model.orders(n));
        }
        Random random = new Random(7);
        for (int i = 0; i < 400; i++) {
            found.add(drawn(random, 7 + i % 3));
        }
        return found;
    }

    static int drawn(Random random, int n) {
        List<Integer> numbers = new ArrayList<>();
        for (int v = 1; v <= n; v++) {
            numbers.add(random.nextInt(v), v);
        }
        return Model.told(numbers.stream().mapToInt(v -> v).toArray());
    }

    private void numbersThatAreNoOrders() {
        for (int number = -20; number <= 70000; number++) {
            checks.due("length(" + number + ")", x.length(number), model.length(number));
        }
        int[] others = {Integer.MIN_VALUE, Integer.MAX_VALUE, 1234567890, 1023456789, 987654321,
            123456789, 112345678, 987654320, 2000000001, 12345679, 87654321};
        for (int number : others) {
            checks.due("length(" + number + ")", x.length(number), model.length(number));
        }
    }

    private void alone(int order) {
        int n = model.length(order);
        checks.due("length(" + order + ")", x.length(order), n);
        for (int turn = -1; turn <= 8; turn++) {
            checks.due("turned(" + order + ", " + turn + ")", x.turned(order, turn),
                    model.turned(order, turn));
        }
        checks.due("least(" + order + ")", x.least(order), model.least(order));
        for (int i = -1; i <= 9; i++) {
            checks.due("without(" + order + ", " + i + ")", x.without(order, i),
                    model.without(order, i));
            checks.due("shape(" + order + ", " + i + ")", x.shape(order, i), model.shape(order, i));
        }
        checks.due("spans(" + order + ")", x.spans(order), model.spans(order));
        for (int which = -1; which <= 12; which++) {
            checks.due("parts(" + order + ", " + which + ")", x.parts(order, which),
                    model.parts(order, which));
        }
        if (n <= 6) {
            checks.due("alike(" + order + ")", x.alike(order), model.alike(order));
        }
        checks.due("rows(" + order + ", false)", x.rows(order, false), model.rows(order, false));
        checks.due("rows(" + order + ", true)", x.rows(order, true), model.rows(order, true));
    }

    private void pairs() {
        for (int order : orders()) {
            for (int pattern : new int[] {0, 1, 12, 21, 132, 231, 2413, 12345}) {
                pair(order, pattern);
            }
        }
        Random random = new Random(3);
        for (int i = 0; i < 3000; i++) {
            pair(drawn(random, random.nextInt(10)), drawn(random, random.nextInt(7)));
        }
    }

    private void pair(int order, int other) {
        String both = "(" + order + ", " + other + ")";
        checks.due("holds" + both, x.holds(order, other), model.holds(order, other));
        checks.due("where" + both, x.where(order, other), model.where(order, other));
        checks.due("times" + both, x.times(order, other), model.times(order, other));
        checks.due("sum" + both, x.sum(order, other, false), model.sum(order, other, false));
        checks.due("skew" + both, x.sum(order, other, true), model.sum(order, other, true));
        for (int i = -1; i <= model.length(order); i++) {
            checks.due("put " + i + both, x.put(order, i, other), model.put(order, i, other));
        }
        int rest = Math.max(0, model.length(order) - model.length(other));
        for (int third : Model.orders(Math.min(rest, 4))) {
            checks.due("merges" + both + third, x.merges(order, other, third),
                    model.merges(order, other, third));
        }
    }

    private void patternNumbers() {
        for (int k = 0; k <= 4; k++) {
            for (int pattern : Model.orders(k)) {
                for (int n = -1; n <= 10; n++) {
                    numbersOf(pattern, n);
                }
            }
        }
        for (int pattern : new int[] {12345, 25314, 7654321, 1234567, 87654321, 123456789, 11}) {
            for (int n = -1; n <= 10; n++) {
                numbersOf(pattern, n);
            }
        }
    }

    private void numbersOf(int pattern, int n) {
        String both = "(" + pattern + ", " + n;
        for (int which = -1; which <= 2; which++) {
            checks.due("mean" + both + ", " + which + ")", x.mean(pattern, n, which),
                    model.mean(pattern, n, which));
        }
        if (n < 6 || n > 7 || pattern % 5 == 0) {
            checks.due("most" + both + ")", x.most(pattern, n), model.most(pattern, n));
            checks.due("packed" + both + ")", x.packed(pattern, n), model.packed(pattern, n));
        }
    }

    /** The first r lengths together are the most places that r rising rows of places can have. */
    private void shapesByLongestUnions() {
        for (int order : Model.orders(6)) {
            int[] row = Model.row(order);
            int together = 0;
            for (int r = 1; r <= 6; r++) {
                together += x.shape(order, r - 1);
                int most = 0;
                for (int places = 0; places < 64; places++) {
                    int part = Model.standing(Model.chosen(row, places));
                    if (model.rows(part, false) <= r) {
                        most = Math.max(most, Integer.bitCount(places));
                    }
                }
                checks.due("first " + r + " lengths of " + order, together, most);
            }
        }
    }
}
