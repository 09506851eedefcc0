/**
 * For each refusal that a promise names: the call is answered so, and all that the object tells
 * afterwards is what it tells without the call. Of several refusals the first one is the answer.
 */
final class RefusalTests {
    private static final int LEAST = Integer.MIN_VALUE;
    private static final int GREATEST = Integer.MAX_VALUE;
    private static final int NINE = 123456789;
    private static final int NO_SHELF = -1001;
    private static final int NO_ELEMENT = -1002;

    /** Which places and shelves of an object that is laid out here hold what. */
    private static final int FREE = 0;
    private static final int SUMS = 1;
    private static final int STACKS = 2;
    private static final int GRID = 3;
    private static final int FULL = 4;
    private static final int FULL_SUMS = 5;
    private static final int EMPTY = 6;
    private static final int A_CLASS = 0;
    private static final int BYTES = 1;
    private static final int INTS = 2;
    private static final int ALIKE = 3;
    private static final int LONG = 4;
    private static final int NOTHING = 5;

    private interface Call {
        long on(OrderPatterns x);
    }

    private final Checks checks;
    private long[] untouched = {};
    private int promise;

    RefusalTests(Checks checks) {
        this.checks = checks;
    }

    void run() {
        untouched = seen(laid());
        ordersRefused();
        makeRefused();
        patternsRefused();
        membersRefused();
        pairsOfClassesRefused();
        numbersRefused();
        keepRefused();
        elementRefused();
        copyRefused();
        heldRefused();
    }

    private static OrderPatterns laid() {
        OrderPatterns x = new OrderPatterns();
        add(x, FREE, 0, 231, 4321);
        add(x, SUMS, 1, 321);
        x.make(STACKS, 2, 1);
        x.make(GRID, 3, 7);
        add(x, FULL, 0, 54321, 4321, 12345, 3142, 2413, NINE);
        add(x, FULL_SUMS, 1, 54321, 4321, 3142, 2413, 25314, 41352);
        x.count(FREE, 5);
        x.count(GRID, 4);
        x.keep(A_CLASS, 1, FREE, 0);
        x.keep(BYTES, 3, 0, 3142);
        x.keep(INTS, 4, FREE, 0);
        x.keep(ALIKE, 3, 0, 213);
        x.copy(ALIKE, 0, ALIKE, 1, 1);
        x.row(LONG, 3, 10);
        return x;
    }

    private static void add(OrderPatterns x, int place, int kind, int... patterns) {
        x.make(place, kind, 0);
        for (int pattern : patterns) {
            x.add(place, pattern);
        }
    }

    private static long element(OrderPatterns x, int d, int i) {
        try {
            return x.element(d, i);
        } catch (IllegalArgumentException noShelf) {
            return NO_SHELF;
        } catch (IllegalStateException noElement) {
            return NO_ELEMENT;
        }
    }

    /** All that an object tells of its places and shelves, in some 300 calls. */
    private static long[] seen(OrderPatterns x) {
        long[] told = new long[400];
        int many = 0;
        for (int place = 0; place < 12; place++) {
            for (int what = 0; what < 8; what++) {
                told[many++] = x.look(place, what);
            }
            for (int n = 3; n <= 6; n++) {
                told[many++] = x.count(place, n);
            }
            told[many++] = x.outer(place, 0);
            told[many++] = x.next(place, 23145);
        }
        for (int d = 0; d < 6; d++) {
            for (int i = 0; i <= 10; i++) {
                told[many++] = element(x, d, i);
            }
            told[many++] = x.weight(d);
            told[many++] = x.toss(d);
            told[many++] = x.read(d);
        }
        return told;
    }

    private void refused(String call, long due, Call made) {
        OrderPatterns x = laid();
        checks.due("promise " + promise + ", refused " + call, made.on(x), due);
        checks.row("promise " + promise + ", told after " + call, seen(x), untouched);
    }

    // ---- promises 2 to 15

    private void ordersRefused() {
        promise = 2;
        refused("length(10)", -1, x -> x.length(10));
        promise = 3;
        refused("holds(11, 1)", -1, x -> x.holds(11, 1));
        refused("holds(1, 11)", -1, x -> x.holds(1, 11));
        promise = 4;
        refused("where(11, 1)", -1, x -> x.where(11, 1));
        refused("where(1, 11)", -1, x -> x.where(1, 11));
        refused("where(12, 21)", -2, x -> x.where(12, 21));
        refused("where(11, 21): -1, -2", -1, x -> x.where(11, 21));
        promise = 5;
        refused("times(11, 1)", -1, x -> x.times(11, 1));
        refused("times(1, 11)", -1, x -> x.times(1, 11));
        promise = 6;
        refused("turned(11, 0)", -1, x -> x.turned(11, 0));
        refused("turned(21, 8)", -1, x -> x.turned(21, 8));
        promise = 7;
        refused("least(2)", -1, x -> x.least(2));
        promise = 8;
        refused("sum(NINE, 1)", -2, x -> x.sum(NINE, 1, false));
        refused("sum(1, NINE)", -2, x -> x.sum(1, NINE, true));
        refused("sum(NINE, 11): -1, -2", -1, x -> x.sum(NINE, 11, false));
        refused("sum(1234567890, 1): -1, -2", -1, x -> x.sum(1234567890, 1, true));
        promise = 9;
        refused("put(21, 2, 1)", -1, x -> x.put(21, 2, 1));
        refused("put(21, 0, 0)", -1, x -> x.put(21, 0, 0));
        refused("put(21, 0, NINE)", -2, x -> x.put(21, 0, NINE));
        refused("put(21, 2, NINE): -1, -2", -1, x -> x.put(21, 2, NINE));
        refused("put(21, -1, NINE): -1, -2", -1, x -> x.put(21, -1, NINE));
        refused("put(22, 0, NINE): -1, -2", -1, x -> x.put(22, 0, NINE));
        refused("put(NINE, 0, 22): -1, -2", -1, x -> x.put(NINE, 0, 22));
        promise = 10;
        refused("without(21, 2)", -1, x -> x.without(21, 2));
        refused("without(0, 0)", -1, x -> x.without(0, 0));
        promise = 11;
        refused("spans(11)", -1, x -> x.spans(11));
        promise = 12;
        refused("parts(21, 12)", -1, x -> x.parts(21, 12));
        refused("parts(21, 5)", -2, x -> x.parts(21, 5));
        refused("parts(11, 5): -1, -2", -1, x -> x.parts(11, 5));
        promise = 13;
        refused("simple(9)", -1, x -> x.simple(9));
        promise = 14;
        refused("shape(21, -1)", -1, x -> x.shape(21, -1));
        promise = 15;
        refused("alike(NINE)", -1, x -> x.alike(NINE));
    }

    // ---- promises 16 to 29

    private void makeRefused() {
        promise = 16;
        for (int place : new int[] {FREE, SUMS, STACKS, GRID, FULL, EMPTY}) {
            refused("make(" + place + ", -1, 1)", -1, x -> x.make(place, -1, 1));
            refused("make(" + place + ", 4, 1)", -1, x -> x.make(place, 4, 1));
            refused("make(" + place + ", 2, 0)", -1, x -> x.make(place, 2, 0));
            refused("make(" + place + ", 2, 3)", -1, x -> x.make(place, 2, 3));
            refused("make(" + place + ", 3, 0)", -1, x -> x.make(place, 3, 0));
            refused("make(" + place + ", 3, 3)", -1, x -> x.make(place, 3, 3));
            refused("make(" + place + ", 3, 121)", -1, x -> x.make(place, 3, 121));
            refused("make(" + place + ", 3, -1)", -1, x -> x.make(place, 3, -1));
        }
        refused("make(12, 0, 0)", -1, x -> x.make(12, 0, 0));
        refused("make(-1, 3, 1)", -1, x -> x.make(-1, 3, 1));
    }

    private void patternsRefused() {
        promise = 17;
        refused("add(12, 21)", -1, x -> x.add(12, 21));
        refused("add(FREE, 0)", -1, x -> x.add(FREE, 0));
        refused("add(FREE, 22)", -1, x -> x.add(FREE, 22));
        refused("add(EMPTY, 21)", -11, x -> x.add(EMPTY, 21));
        refused("add(STACKS, 21)", -12, x -> x.add(STACKS, 21));
        refused("add(GRID, 21)", -12, x -> x.add(GRID, 21));
        refused("add(FULL, 21)", -2, x -> x.add(FULL, 21));
        refused("add(FULL_SUMS, 21)", -2, x -> x.add(FULL_SUMS, 21));
        refused("add(FREE, 4321)", -3, x -> x.add(FREE, 4321));
        refused("add(SUMS, 321)", -3, x -> x.add(SUMS, 321));
        refused("add(SUMS, 132)", -3, x -> x.add(SUMS, 132));
        refused("add(EMPTY, 0): -1, -11", -1, x -> x.add(EMPTY, 0));
        refused("add(EMPTY, 22): -1, -11", -1, x -> x.add(EMPTY, 22));
        refused("add(STACKS, 0): -1, -12", -1, x -> x.add(STACKS, 0));
        refused("add(FULL, 0): -1, -2", -1, x -> x.add(FULL, 0));
        refused("add(FULL, 3142): -2, -3", -2, x -> x.add(FULL, 3142));
        refused("add(FULL_SUMS, 3142): -2, -3", -2, x -> x.add(FULL_SUMS, 3142));
        refused("add(FULL_SUMS, 132): -2, -3", -2, x -> x.add(FULL_SUMS, 132));
        promise = 18;
        refused("thin(-1)", -1, x -> x.thin(-1));
        refused("thin(EMPTY)", -11, x -> x.thin(EMPTY));
        refused("thin(STACKS)", -12, x -> x.thin(STACKS));
        refused("thin(GRID)", -12, x -> x.thin(GRID));
        promise = 19;
        refused("look(12, 0)", -1, x -> x.look(12, 0));
        refused("look(FREE, -1)", -1, x -> x.look(FREE, -1));
        refused("look(EMPTY, 1)", -11, x -> x.look(EMPTY, 1));
        refused("look(FREE, 4)", -2, x -> x.look(FREE, 4));
        refused("look(STACKS, 2)", -12, x -> x.look(STACKS, 2));
        refused("look(EMPTY, -1): -1, -11", -1, x -> x.look(EMPTY, -1));
        refused("look(STACKS, -1): -1, -12", -1, x -> x.look(STACKS, -1));
        refused("look(EMPTY, 9): -11, -2", -11, x -> x.look(EMPTY, 9));
        refused("look(GRID, 9): of KINDS 2, 3 -12", -12, x -> x.look(GRID, 9));
    }

    private void membersRefused() {
        promise = 20;
        refused("in(12, 21)", -1, x -> x.in(12, 21));
        refused("in(EMPTY, 21)", -11, x -> x.in(EMPTY, 21));
        refused("in(EMPTY, 22): -1, -11", -1, x -> x.in(EMPTY, 22));
        promise = 21;
        refused("count(FREE, 9)", -1, x -> x.count(FREE, 9));
        refused("count(EMPTY, 8)", -11, x -> x.count(EMPTY, 8));
        refused("count(EMPTY, 9): -1, -11", -1, x -> x.count(EMPTY, 9));
        promise = 22;
        refused("ranked(FREE, 3, 5)", -2, x -> x.ranked(FREE, 3, 5));
        refused("ranked(FREE, 3, -1)", -1, x -> x.ranked(FREE, 3, -1));
        refused("ranked(EMPTY, 3, 0)", -11, x -> x.ranked(EMPTY, 3, 0));
        refused("ranked(FREE, 9, GREATEST): -1, -2", -1, x -> x.ranked(FREE, 9, GREATEST));
        refused("ranked(EMPTY, 3, -1): -1, -11", -1, x -> x.ranked(EMPTY, 3, -1));
        refused("ranked(EMPTY, 9, 0): -1, -11", -1, x -> x.ranked(EMPTY, 9, 0));
        refused("ranked(EMPTY, 3, 9): -11, -2", -11, x -> x.ranked(EMPTY, 3, 9));
        promise = 23;
        refused("rank(FREE, 231)", -2, x -> x.rank(FREE, 231));
        refused("rank(EMPTY, 231)", -11, x -> x.rank(EMPTY, 231));
        refused("rank(FREE, NINE)", -1, x -> x.rank(FREE, NINE));
        refused("rank(FULL, NINE): -1, -2", -1, x -> x.rank(FULL, NINE));
        refused("rank(EMPTY, NINE): -1, -11", -1, x -> x.rank(EMPTY, NINE));
        promise = 24;
        refused("next(FREE, 321)", -2, x -> x.next(FREE, 321));
        refused("next(EMPTY, 321)", -11, x -> x.next(EMPTY, 321));
        refused("next(FREE, 987654321): -1, -2", -1, x -> x.next(FREE, 987654321));
        refused("next(EMPTY, NINE): -1, -11", -1, x -> x.next(EMPTY, NINE));
        promise = 25;
        refused("outer(FREE, 2)", -2, x -> x.outer(FREE, 2));
        refused("outer(FREE, -1)", -1, x -> x.outer(FREE, -1));
        refused("outer(EMPTY, 0)", -11, x -> x.outer(EMPTY, 0));
        refused("outer(EMPTY, -1): -1, -11", -1, x -> x.outer(EMPTY, -1));
        promise = 26;
        refused("kids(FREE, 12345678)", -1, x -> x.kids(FREE, 12345678));
        refused("kids(EMPTY, 1)", -11, x -> x.kids(EMPTY, 1));
        refused("kids(EMPTY, 12345678): -1, -11", -1, x -> x.kids(EMPTY, 12345678));
    }

    private void pairsOfClassesRefused() {
        promise = 27;
        refused("same(FREE, 12)", -1, x -> x.same(FREE, 12));
        refused("same(FREE, EMPTY)", -11, x -> x.same(FREE, EMPTY));
        refused("same(EMPTY, FREE)", -11, x -> x.same(EMPTY, FREE));
        refused("same(EMPTY, 12): -1, -11", -1, x -> x.same(EMPTY, 12));
        refused("same(-1, EMPTY): -1, -11", -1, x -> x.same(-1, EMPTY));
        promise = 28;
        refused("like(FREE, SUMS)", -2, x -> x.like(FREE, SUMS));
        refused("like(FREE, EMPTY)", -11, x -> x.like(FREE, EMPTY));
        refused("like(EMPTY, FREE)", -11, x -> x.like(EMPTY, FREE));
        refused("like(FREE, GRID)", -12, x -> x.like(FREE, GRID));
        refused("like(GRID, FREE)", -12, x -> x.like(GRID, FREE));
        refused("like(GRID, EMPTY): the first, then the other", -12, x -> x.like(GRID, EMPTY));
        refused("like(EMPTY, GRID): the first, then the other", -11, x -> x.like(EMPTY, GRID));
        refused("like(GRID, 12): -1, -12", -1, x -> x.like(GRID, 12));
        refused("like(12, GRID): -1, -12", -1, x -> x.like(12, GRID));
        refused("like(EMPTY, 12): -1, -11", -1, x -> x.like(EMPTY, 12));
        promise = 29;
        refused("turnedClass(FREE, 8, EMPTY)", -1, x -> x.turnedClass(FREE, 8, EMPTY));
        refused("turnedClass(FREE, 1, 12)", -1, x -> x.turnedClass(FREE, 1, 12));
        refused("turnedClass(12, 1, FREE)", -1, x -> x.turnedClass(12, 1, FREE));
        for (int to : new int[] {FREE, STACKS, GRID, FULL, EMPTY}) {
            String end = ", 1, " + to + ")";
            refused("turnedClass(EMPTY" + end, -11, x -> x.turnedClass(EMPTY, 1, to));
            refused("turnedClass(STACKS" + end, -12, x -> x.turnedClass(STACKS, 1, to));
            refused("turnedClass(GRID" + end, -12, x -> x.turnedClass(GRID, 1, to));
        }
        refused("turnedClass(EMPTY, 8, 0): -1, -11", -1, x -> x.turnedClass(EMPTY, 8, 0));
        refused("turnedClass(EMPTY, 0, 12): -1, -11", -1, x -> x.turnedClass(EMPTY, 0, 12));
        refused("turnedClass(GRID, -1, 0): -1, -12", -1, x -> x.turnedClass(GRID, -1, 0));
        refused("turnedClass(GRID, 0, -1): -1, -12", -1, x -> x.turnedClass(GRID, 0, -1));
    }

    // ---- promises 30 to 35

    private void numbersRefused() {
        promise = 30;
        refused("mean(21, 1, 0)", -1, x -> x.mean(21, 1, 0));
        refused("mean(0, 1, 0)", -1, x -> x.mean(0, 1, 0));
        refused("mean(21, 10, 0)", -1, x -> x.mean(21, 10, 0));
        refused("mean(21, 5, 2)", -1, x -> x.mean(21, 5, 2));
        promise = 31;
        refused("all(FREE, 8, 21)", -1, x -> x.all(FREE, 8, 21));
        refused("all(FREE, 3, 22)", -1, x -> x.all(FREE, 3, 22));
        refused("all(EMPTY, 3, 21)", -11, x -> x.all(EMPTY, 3, 21));
        refused("all(EMPTY, 8, 21): -1, -11", -1, x -> x.all(EMPTY, 8, 21));
        refused("all(EMPTY, 3, 22): -1, -11", -1, x -> x.all(EMPTY, 3, 22));
        promise = 32;
        refused("most(21, 8)", -1, x -> x.most(21, 8));
        refused("most(22, 3)", -1, x -> x.most(22, 3));
        promise = 33;
        refused("packed(21, 8)", -1, x -> x.packed(21, 8));
        refused("packed(22, 3)", -1, x -> x.packed(22, 3));
        promise = 34;
        refused("merges(21, 1, 21)", -2, x -> x.merges(21, 1, 21));
        refused("merges(22, 1, 21): -1, -2", -1, x -> x.merges(22, 1, 21));
        refused("merges(21, 22, 21): -1, -2", -1, x -> x.merges(21, 22, 21));
        refused("merges(21, 21, 22): -1, -2", -1, x -> x.merges(21, 21, 22));
        promise = 35;
        refused("rows(22, true)", -1, x -> x.rows(22, true));
        refused("rows(-1, false)", -1, x -> x.rows(-1, false));
    }

    // ---- promises 36 to 42

    private void keepRefused() {
        promise = 36;
        for (int d = 0; d < 6; d++) {
            int shelf = d;
            String begin = "keep(" + d;
            refused(begin + ", 1, EMPTY)", -11, x -> x.keep(shelf, 1, EMPTY, 0));
            refused(begin + ", 4, EMPTY)", -11, x -> x.keep(shelf, 4, EMPTY, 0));
            refused(begin + ", 1, 12)", -1, x -> x.keep(shelf, 1, 12, 0));
            refused(begin + ", 4, -1)", -1, x -> x.keep(shelf, 4, -1, 0));
            refused(begin + ", 3, 0, 22)", -1, x -> x.keep(shelf, 3, 0, 22));
            refused(begin + ", 3, 0, 1234567890)", -1, x -> x.keep(shelf, 3, 0, 1234567890));
            refused(begin + ", 2)", -1, x -> x.keep(shelf, 2, 0, 0));
            refused(begin + ", 5, EMPTY): -1, -11", -1, x -> x.keep(shelf, 5, EMPTY, 0));
            refused(begin + ", -1, EMPTY): -1, -11", -1, x -> x.keep(shelf, -1, EMPTY, 0));
        }
        refused("keep(6, 0)", -1, x -> x.keep(6, 0, 0, 0));
        refused("keep(-1, 3)", -1, x -> x.keep(-1, 3, 0, 21));
        refused("keep(6, 1, EMPTY): -1, -11", -1, x -> x.keep(6, 1, EMPTY, 0));
        refused("keep(-1, 4, EMPTY): -1, -11", -1, x -> x.keep(-1, 4, EMPTY, 0));
        promise = 37;
        for (int d = 0; d < 6; d++) {
            int shelf = d;
            String begin = "row(" + d;
            refused(begin + ", 3, -1)", -14, x -> x.row(shelf, 3, -1));
            refused(begin + ", 4, LEAST)", -14, x -> x.row(shelf, 4, LEAST));
            refused(begin + ", 3, 61)", -1, x -> x.row(shelf, 3, 61));
            refused(begin + ", 4, GREATEST)", -1, x -> x.row(shelf, 4, GREATEST));
            refused(begin + ", 2, 1)", -1, x -> x.row(shelf, 2, 1));
            refused(begin + ", 5, -1): -1, -14", -1, x -> x.row(shelf, 5, -1));
            refused(begin + ", 2, -1): -1, -14", -1, x -> x.row(shelf, 2, -1));
        }
        refused("row(6, 3, 1)", -1, x -> x.row(6, 3, 1));
        refused("row(6, 3, -1): -1, -14", -1, x -> x.row(6, 3, -1));
        refused("row(-1, 4, -1): -1, -14", -1, x -> x.row(-1, 4, -1));
    }

    private void elementRefused() {
        promise = 38;
        refused("element(6, 0)", NO_SHELF, x -> element(x, 6, 0));
        refused("element(-1, 0)", NO_SHELF, x -> element(x, -1, 0));
        refused("element(6, -1): no SHELF, no place", NO_SHELF, x -> element(x, 6, -1));
        refused("element(NOTHING, 0)", NO_ELEMENT, x -> element(x, NOTHING, 0));
        refused("element(A_CLASS, 0)", NO_ELEMENT, x -> element(x, A_CLASS, 0));
        refused("element(BYTES, -1)", NO_ELEMENT, x -> element(x, BYTES, -1));
        refused("element(BYTES, 4)", NO_ELEMENT, x -> element(x, BYTES, 4));
        refused("element(INTS, 7)", NO_ELEMENT, x -> element(x, INTS, 7));
    }

    private void copyRefused() {
        promise = 39;
        refused("copy(6, BYTES)", -1, x -> x.copy(6, 0, BYTES, 0, 1));
        refused("copy(BYTES, -1)", -1, x -> x.copy(BYTES, 0, -1, 0, 1));
        refused("copy(NOTHING, BYTES)", -11, x -> x.copy(NOTHING, 0, BYTES, 0, 1));
        refused("copy(BYTES, NOTHING)", -11, x -> x.copy(BYTES, 0, NOTHING, 0, 1));
        refused("copy(A_CLASS, BYTES)", -12, x -> x.copy(A_CLASS, 0, BYTES, 0, 1));
        refused("copy(BYTES, A_CLASS)", -12, x -> x.copy(BYTES, 0, A_CLASS, 0, 1));
        refused("copy(BYTES, INTS)", -12, x -> x.copy(BYTES, 0, INTS, 0, 1));
        refused("copy(INTS, BYTES)", -12, x -> x.copy(INTS, 0, BYTES, 0, 1));
        refused("copy: n below 0", -13, x -> x.copy(BYTES, 0, LONG, 0, -1));
        refused("copy: i below 0", -13, x -> x.copy(BYTES, -1, LONG, 0, 1));
        refused("copy: j below 0", -13, x -> x.copy(BYTES, 0, LONG, -1, 1));
        refused("copy: beyond the first's end", -13, x -> x.copy(BYTES, 0, LONG, 0, 5));
        refused("copy: beyond the first's end", -13, x -> x.copy(BYTES, 3, LONG, 0, 2));
        refused("copy: beyond the other's end", -13, x -> x.copy(BYTES, 0, LONG, 7, 4));
        refused("copy: beyond its own end", -13, x -> x.copy(BYTES, 0, BYTES, 1, 4));
        refused("copy: beyond by far", -13, x -> x.copy(BYTES, GREATEST, LONG, 0, GREATEST));
        refused("copy(6, NOTHING): -1, -11", -1, x -> x.copy(6, 0, NOTHING, 0, 1));
        refused("copy(NOTHING, 6): -1, -11", -1, x -> x.copy(NOTHING, 0, 6, 0, 1));
        refused("copy(A_CLASS, 6): -1, -12", -1, x -> x.copy(A_CLASS, 0, 6, 0, 1));
        refused("copy(6, BYTES), -1 of them: -1, -13", -1, x -> x.copy(6, 0, BYTES, 0, -1));
        refused("copy(A_CLASS, NOTHING): -11, -12", -11, x -> x.copy(A_CLASS, 0, NOTHING, 0, 1));
        refused("copy(NOTHING, A_CLASS): -11, -12", -11, x -> x.copy(NOTHING, 0, A_CLASS, 0, 1));
        refused("copy(NOTHING), -1 of them: -11, -13", -11, x -> x.copy(NOTHING, 0, BYTES, 0, -1));
        refused("copy(BYTES, INTS), -1: -12, -13", -12, x -> x.copy(BYTES, -1, INTS, -1, -1));
        refused("copy(A_CLASS), 99: -12, -13", -12, x -> x.copy(A_CLASS, 0, BYTES, 0, 99));
    }

    private void heldRefused() {
        promise = 40;
        refused("read(6)", -1, x -> x.read(6));
        refused("read(NOTHING)", -11, x -> x.read(NOTHING));
        refused("read(A_CLASS)", -12, x -> x.read(A_CLASS));
        refused("read(INTS)", -12, x -> x.read(INTS));
        refused("read(ALIKE)", -2, x -> x.read(ALIKE));
        refused("read(LONG): -13 ahead of -2, as told there", -13, x -> x.read(LONG));
        promise = 41;
        refused("weight(6)", -1, x -> x.weight(6));
        refused("weight(-1)", -1, x -> x.weight(-1));
        refused("weight(NOTHING)", -11, x -> x.weight(NOTHING));
        refused("weight(BYTES)", -12, x -> x.weight(BYTES));
        refused("weight(INTS)", -12, x -> x.weight(INTS));
        promise = 42;
        refused("toss(6)", -1, x -> x.toss(6));
        refused("toss(-1)", -1, x -> x.toss(-1));
        refused("toss(NOTHING)", -11, x -> x.toss(NOTHING));
        refused("toss(BYTES)", -12, x -> x.toss(BYTES));
        refused("toss(INTS)", -12, x -> x.toss(INTS));
        refused("toss(A_CLASS)", -15, x -> x.toss(A_CLASS));
    }
}
