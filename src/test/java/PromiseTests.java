/** For each promise: ordinary calls, the edges that the document names, and wrong calls. */
final class PromiseTests {
    private static final int LEAST_INT = Integer.MIN_VALUE;
    private static final int GREATEST_INT = Integer.MAX_VALUE;
    private static final int[] NO_ORDERS = {-1, 2, 10, 11, 13, 120, 122, 1224, 123456788,
        1234567890, 1023456789, LEAST_INT, GREATEST_INT};
    private static final int[] NO_PLACES = {-1, 12, LEAST_INT, GREATEST_INT};
    private static final int[] NO_SHELVES = {-1, 6, LEAST_INT, GREATEST_INT};
    private static final long NO_SHELF = -1001;
    private static final long NO_ELEMENT = -1002;

    private final Checks checks;
    private OrderPatterns x;

    PromiseTests(Checks checks) {
        this.checks = checks;
    }

    /** Pairs of an answer and what is due. */
    private void dues(int promise, long... pairs) {
        for (int i = 0; i < pairs.length; i += 2) {
            checks.due("promise " + promise + ", pair " + i / 2, pairs[i], pairs[i + 1]);
        }
    }

    private void fresh() {
        x = new OrderPatterns();
    }

    void run() {
        newObject();
        ordersThatHold();
        turns();
        sums();
        puts();
        spans();
        parts();
        simpleOnes();
        shapes();
        wrongOrders();
        makes();
        adds();
        thins();
        looks();
        members();
        counts();
        listed();
        outers();
        kidsOfOrders();
        sameOnes();
        likeOnes();
        turnedClasses();
        wrongPlaces();
        emptyPlaces();
        refusalsInOrder();
        means();
        allOfAClass();
        fullest();
        merged();
        rowsOfPlaces();
        keeps();
        rowsOfZeros();
        elements();
        copies();
        reads();
        weights();
        tosses();
        refusedCallsChangeNothing();
    }

    // ---- 1 to 15

    private void newObject() {
        fresh();
        for (int place = 0; place < 12; place++) {
            dues(1, x.look(place, 0), -11, x.count(place, 0), -11, x.in(place, 0), -11);
        }
        for (int d = 0; d < 6; d++) {
            dues(1, x.weight(d), -11, x.read(d), -11, x.toss(d), -11, element(d, 0), NO_ELEMENT);
        }
        x.make(0, 0, 0);
        OrderPatterns second = new OrderPatterns();
        dues(1, second.look(0, 0), -11, x.look(0, 0), 0);
    }

    private void ordersThatHold() {
        fresh();
        dues(2, x.length(0), 0, x.length(1), 1, x.length(21), 2, x.length(123456789), 9,
                x.length(987654321), 9, x.length(87654321), 8, x.length(231), 3);
        dues(3, x.holds(31524, 132), 1, x.holds(31524, 4321), 0, x.holds(31524, 31524), 1,
                x.holds(21, 132), 0, x.holds(0, 0), 1, x.holds(0, 1), 0, x.holds(1, 1), 1,
                x.holds(31524, 0), 1, x.holds(123456789, 12345678), 1,
                x.holds(123456789, 21), 0, x.holds(2413, 231), 1, x.holds(2413, 123), 0);
        dues(4, x.where(31524, 132), 21, x.where(31524, 4321), -2, x.where(31524, 0), 0,
                x.where(0, 0), 0, x.where(0, 1), -2, x.where(31524, 1), 1, x.where(1234, 12), 3,
                x.where(21, 12), -2, x.where(213, 12), 5, x.where(123456789, 123456789), 511,
                x.where(43512, 213), 7);
        // Places 0 and 3 come ahead of 1 and 2, though their bits are more.
        dues(4, x.where(3124, 12), 9);
        dues(5, x.times(52341, 21), 7, x.times(1234, 12), 6, x.times(123456789, 1234), 126,
                x.times(987654321, 12), 0, x.times(31524, 0), 1, x.times(0, 0), 1,
                x.times(21, 321), 0, x.times(123456789, 1), 9, x.times(2413, 231), 1);
    }

    private void turns() {
        fresh();
        int[] of2413 = {2413, 3142, 3142, 2413, 3142, 2413, 2413, 3142};
        int[] of231 = {231, 132, 213, 312, 312, 132, 213, 231};
        int[] ofNine = {314259786, 687952413, 796851324, 423158697};
        for (int turn = 0; turn < 8; turn++) {
            dues(6, x.turned(2413, turn), of2413[turn], x.turned(231, turn), of231[turn],
                    x.turned(0, turn), 0, x.turned(1, turn), 1);
        }
        for (int turn = 0; turn < 4; turn++) {
            dues(6, x.turned(314259786, turn), ofNine[turn]);
        }
        dues(6, x.turned(31524, 7), 31524, x.turned(231, 8), -1, x.turned(231, -1), -1);
        dues(7, x.least(31524), 24153, x.least(0), 0, x.least(1), 1, x.least(21), 12,
                x.least(312), 132, x.least(3142), 2413, x.least(987654321), 123456789);
    }

    private void sums() {
        fresh();
        dues(8, x.sum(21, 312, false), 21534, x.sum(21, 312, true), 54312,
                x.sum(312, 21, false), 31254, x.sum(312, 21, true), 53421,
                x.sum(0, 0, false), 0, x.sum(0, 0, true), 0, x.sum(0, 312, true), 312,
                x.sum(0, 312, false), 312, x.sum(312, 0, false), 312, x.sum(312, 0, true), 312,
                x.sum(12345, 4321, false), 123459876, x.sum(12345, 4321, true), 567894321,
                x.sum(12345, 54321, false), -2, x.sum(12345, 54321, true), -2,
                x.sum(123456789, 0, true), 123456789, x.sum(123456789, 1, false), -2,
                x.sum(11, 123456789, false), -1, x.sum(123456789, 11, true), -1);
    }

    private void puts() {
        fresh();
        dues(9, x.put(2413, 1, 21), 25413, x.put(2413, 0, 1), 2413, x.put(1, 0, 231), 231,
                x.put(21, 1, 123), 4123, x.put(21, 0, 123), 2341, x.put(2413, 3, 312), 261534,
                x.put(2413, 0, 123456), 234567918, x.put(123456789, 8, 1), 123456789);
        dues(9, x.put(2413, 4, 21), -1, x.put(2413, -1, 21), -1, x.put(2413, 0, 0), -1,
                x.put(0, 0, 1), -1, x.put(2413, GREATEST_INT, 1), -1,
                x.put(2413, 0, 1234567), -2, x.put(123456789, 8, 12), -2,
                x.put(123456789, 9, 12), -1, x.put(123456789, 8, 0), -1);
        dues(10, x.without(35214, 1), 3214, x.without(35214, 0), 4213, x.without(35214, 4), 3421,
                x.without(1, 0), 0, x.without(987654321, 0), 87654321,
                x.without(123456789, 8), 12345678, x.without(35214, 5), -1,
                x.without(35214, -1), -1, x.without(0, 0), -1, x.without(12, LEAST_INT), -1);
    }

    private void spans() {
        fresh();
        dues(11, x.spans(45312), 4, x.spans(12345), 9, x.spans(2413), 0, x.spans(12), 0,
                x.spans(21), 0, x.spans(1), 0, x.spans(0), 0, x.spans(123), 2, x.spans(132), 1,
                x.spans(123456789), 35, x.spans(246813579), 1, x.spans(24681357), 0,
                x.spans(35214), 1);
    }

    /** KIND, how many, the SIMPLE one, then the PARTS, and one that isn't there. */
    private void partsAre(int order, int... due) {
        for (int which = 0; which < due.length; which++) {
            dues(12, x.parts(order, which), due[which]);
        }
        for (int which = due.length; which < 12; which++) {
            dues(12, x.parts(order, which), -2);
        }
        dues(12, x.parts(order, -1), -1, x.parts(order, 12), -1, x.parts(order, GREATEST_INT), -1);
    }

    private void parts() {
        fresh();
        partsAre(0, 0, 0, 0);
        partsAre(1, 0, 0, 0);
        partsAre(12, 1, 2, 0, 1, 1);
        partsAre(21, 2, 2, 0, 1, 1);
        partsAre(2413, 3, 4, 2413, 1, 1, 1, 1);
        partsAre(35461728, 1, 2, 0, 3546172, 1);
        partsAre(35214, 3, 4, 2413, 1, 1, 21, 1);
        partsAre(45312, 2, 3, 0, 12, 1, 12);
        partsAre(21543, 1, 2, 0, 21, 321);
        partsAre(462513, 3, 6, 462513, 1, 1, 1, 1, 1, 1);
        partsAre(23871465, 3, 4, 2413, 12, 21, 1, 132);
        partsAre(123456789, 1, 9, 0, 1, 1, 1, 1, 1, 1, 1, 1, 1);
        partsAre(987654321, 2, 9, 0, 1, 1, 1, 1, 1, 1, 1, 1, 1);
        partsAre(321654987, 1, 3, 0, 321, 321, 321);
    }

    private void simpleOnes() {
        fresh();
        int[] due = {0, 0, 2, 0, 2, 6, 46, 338, 2926};
        for (int time = 0; time < 2; time++) {
            for (int n = 8; n >= 0; n--) {
                dues(13, x.simple(n), due[n]);
            }
        }
        dues(13, x.simple(9), -1, x.simple(-1), -1, x.simple(GREATEST_INT), -1);
    }

    private void shapes() {
        fresh();
        dues(14, x.shape(31524, 0), 3, x.shape(31524, 1), 2, x.shape(31524, 2), 0,
                x.shape(321, 0), 1, x.shape(321, 1), 1, x.shape(321, 2), 1, x.shape(321, 3), 0,
                x.shape(123, 0), 3, x.shape(123, 1), 0, x.shape(0, 0), 0, x.shape(1, 0), 1,
                x.shape(987654321, 8), 1, x.shape(987654321, 9), 0,
                x.shape(87561234, 0), 4, x.shape(87561234, 1), 2, x.shape(87561234, 3), 1,
                x.shape(12, GREATEST_INT), 0, x.shape(12, -1), -1, x.shape(12, LEAST_INT), -1);
        dues(15, x.alike(31524), 25, x.alike(0), 1, x.alike(1), 1, x.alike(12), 1, x.alike(21), 1,
                x.alike(132), 4, x.alike(12345678), 1, x.alike(87654321), 1,
                x.alike(87561234), 8100, x.alike(2143), 4, x.alike(123456789), -1);
    }

    private void wrongOrders() {
        fresh();
        x.make(0, 0, 0);
        for (int wrong : NO_ORDERS) {
            dues(2, x.length(wrong), -1);
            dues(3, x.holds(wrong, 12), -1, x.holds(12, wrong), -1, x.holds(wrong, wrong), -1);
            dues(4, x.where(wrong, 12), -1, x.where(12, wrong), -1);
            dues(5, x.times(wrong, 12), -1, x.times(12, wrong), -1);
            dues(6, x.turned(wrong, 0), -1);
            dues(7, x.least(wrong), -1);
            dues(8, x.sum(wrong, 1, false), -1, x.sum(1, wrong, true), -1);
            dues(9, x.put(wrong, 0, 1), -1, x.put(12, 0, wrong), -1);
            dues(10, x.without(wrong, 0), -1);
            dues(11, x.spans(wrong), -1);
            dues(12, x.parts(wrong, 0), -1);
            dues(14, x.shape(wrong, 0), -1);
            dues(15, x.alike(wrong), -1);
            dues(17, x.add(0, wrong), -1);
            dues(20, x.in(0, wrong), -1);
            dues(23, x.rank(0, wrong), -1);
            dues(24, x.next(0, wrong), -1);
            dues(26, x.kids(0, wrong), -1);
            dues(30, x.mean(wrong, 5, 0), -1);
            dues(31, x.all(0, 3, wrong), -1);
            dues(32, x.most(wrong, 3), -1);
            dues(33, x.packed(wrong, 3), -1);
            dues(34, x.merges(wrong, 1, 1), -1, x.merges(12, wrong, 1), -1, x.merges(12, 1, wrong), -1);
            dues(35, x.rows(wrong, true), -1, x.rows(wrong, false), -1);
            dues(36, x.keep(0, 3, 0, wrong), -1);
        }
        dues(17, x.look(0, 1), 0);
        dues(36, x.read(0), -11);
    }

    // ---- 16 to 29

    private void free(int place, int... patterns) {
        x.make(place, 0, 0);
        for (int pattern : patterns) {
            x.add(place, pattern);
        }
    }

    private void makes() {
        fresh();
        dues(16, x.make(0, 0, 0), 0, x.look(0, 0), 0, x.look(0, 1), 0,
                x.make(11, 1, 0), 0, x.look(11, 0), 1, x.look(11, 1), 0,
                x.make(2, 2, 1), 0, x.look(2, 0), 2, x.look(2, 1), 1,
                x.make(3, 2, 2), 0, x.look(3, 0), 2, x.look(3, 1), 2);
        int[] cells = {1, 2, 4, 5, 7, 8, 13, 26, 40, 80};
        int[] many = {1, 1, 2, 2, 2, 2, 3, 3, 4, 4};
        for (int i = 0; i < cells.length; i++) {
            dues(16, x.make(4, 3, cells[i]), 0, x.look(4, 0), 3, x.look(4, 1), many[i]);
        }
        x.add(0, 21);
        for (int wrong : new int[] {0, -1, 3, 6, 9, 10, 12, 15, 27, 39, 81, 121, 122, 242,
            LEAST_INT, GREATEST_INT}) {
            dues(16, x.make(0, 3, wrong), -1);
        }
        dues(16, x.make(0, 2, 0), -1, x.make(0, 2, 3), -1, x.make(0, 2, -1), -1,
                x.make(0, 4, 1), -1, x.make(0, -1, 1), -1, x.make(0, GREATEST_INT, 1), -1,
                x.look(0, 2), 21);
        // Another CLASS takes the PLACE of the one there; KINDS 0 and 1 are told nothing more.
        dues(16, x.make(0, 0, 77), 0, x.look(0, 1), 0, x.make(0, 1, -5), 0, x.look(0, 0), 1);
        // The lowest digit is the first CELL: rising, then falling.
        dues(16, x.make(5, 3, 7), 0, x.in(5, 132), 1, x.in(5, 213), 0,
                x.make(5, 3, 5), 0, x.in(5, 132), 0, x.in(5, 213), 1);
    }

    private void adds() {
        fresh();
        dues(17, x.add(0, 21), -11, x.make(0, 0, 0), 0, x.add(0, 231), 1, x.add(0, 132), 2,
                x.add(0, 231), -3, x.add(0, 1234), 3, x.add(0, 123456789), 4, x.add(0, 12), 5,
                x.add(0, 0), -1, x.add(0, 987654321), 6, x.add(0, 21), -2, x.add(0, 231), -2,
                x.look(0, 1), 6, x.look(0, 3), 132);
        dues(17, x.make(1, 1, 0), 0, x.add(1, 132), -3, x.add(1, 231), 1, x.add(1, 12), -3,
                x.add(1, 1), 2, x.add(1, 231), -3, x.add(1, 2143), -3, x.add(1, 21), 3,
                x.add(1, 321), 4, x.add(1, 4321), 5, x.add(1, 54321), 6, x.add(1, 132), -2);
        dues(17, x.make(2, 2, 1), 0, x.add(2, 21), -12, x.make(3, 3, 1), 0, x.add(3, 21), -12,
                x.add(2, 0), -1);
        // What was counted ahead of a new PATTERN is counted anew.
        dues(17, x.make(4, 0, 0), 0, x.count(4, 5), 120, x.add(4, 231), 1, x.count(4, 5), 42,
                x.add(4, 321), 2, x.count(4, 5), 16);
    }

    private void thins() {
        fresh();
        free(0, 2314, 231, 21);
        dues(18, x.thin(0), 1, x.look(0, 2), 21, x.look(0, 3), -2, x.look(0, 1), 1);
        free(1, 4321, 3142, 132, 12345);
        dues(18, x.count(1, 4), 13, x.thin(1), 3, x.look(1, 2), 4321, x.look(1, 3), 132,
                x.look(1, 4), 12345, x.count(1, 4), 13, x.thin(1), 3, x.add(1, 3142), 4);
        free(2);
        dues(18, x.thin(2), 0, x.make(3, 1, 0), 0, x.add(3, 321), 1, x.add(3, 21), 2,
                x.thin(3), 1, x.look(3, 2), 21, x.look(3, 0), 1);
        dues(18, x.thin(9), -11, x.make(4, 2, 2), 0, x.thin(4), -12, x.make(4, 3, 2), 0,
                x.thin(4), -12);
    }

    private void looks() {
        fresh();
        free(0, 231, 4321);
        dues(19, x.look(0, 0), 0, x.look(0, 1), 2, x.look(0, 2), 231, x.look(0, 3), 4321,
                x.look(0, 4), -2, x.look(0, 7), -2, x.look(0, 8), -2, x.look(0, GREATEST_INT), -2,
                x.look(0, -1), -1, x.look(0, LEAST_INT), -1, x.look(1, 0), -11, x.look(1, 99), -11,
                x.look(1, -1), -1);
        x.make(2, 2, 2);
        x.make(3, 3, 40);
        dues(19, x.look(2, 0), 2, x.look(2, 1), 2, x.look(2, 2), -12, x.look(2, 99), -12,
                x.look(3, 0), 3, x.look(3, 1), 4, x.look(3, 2), -12, x.look(3, -1), -1);
    }

    private void members() {
        fresh();
        free(0, 231);
        x.make(1, 2, 1);
        x.make(2, 2, 2);
        x.make(3, 3, 7);
        x.make(4, 3, 5);
        x.make(5, 1, 0);
        x.add(5, 1);
        dues(20, x.in(0, 3142), 0, x.in(0, 2143), 1, x.in(0, 0), 1, x.in(0, 987654321), 1,
                x.in(0, 987654312), 1, x.in(0, 897654321), 0, x.in(0, 123456789), 1,
                x.in(1, 2413), 0, x.in(1, 2143), 1, x.in(1, 312), 0, x.in(1, 0), 1,
                x.in(1, 987654321), 1, x.in(1, 912345678), 0,
                x.in(2, 12345), 1, x.in(2, 54321), 1, x.in(2, 0), 1, x.in(2, 123456789), 1,
                x.in(2, 987654321), 1, x.in(2, 7132465), 0, x.in(2, 61482537), 0,
                x.in(3, 1432), 1, x.in(3, 2143), 0, x.in(3, 0), 1, x.in(3, 1), 1,
                x.in(3, 135798642), 1, x.in(3, 135978642), 0,
                x.in(4, 2143), 0, x.in(4, 321456789), 1, x.in(4, 4321), 1, x.in(4, 132), 0,
                x.in(5, 0), 1, x.in(5, 1), 0, x.in(5, 12), 0);
    }

    private void countsAre(int place, int... due) {
        for (int n = 0; n < due.length; n++) {
            dues(21, x.count(place, n), due[n]);
        }
        dues(21, x.count(place, -1), -1, x.count(place, 9), -1, x.count(place, GREATEST_INT), -1);
    }

    private void counts() {
        fresh();
        free(0);
        countsAre(0, 1, 1, 2, 6, 24, 120, 720, 5040, 40320);
        free(0, 231);
        countsAre(0, 1, 1, 2, 5, 14, 42, 132, 429, 1430);
        free(0, 1);
        countsAre(0, 1, 0, 0, 0, 0, 0, 0, 0, 0);
        free(0, 12);
        countsAre(0, 1, 1, 1, 1, 1, 1, 1, 1, 1);
        free(0, 123, 321);
        countsAre(0, 1, 1, 2, 4, 4, 0, 0, 0, 0);
        free(0, 1342);
        countsAre(0, 1, 1, 2, 6, 23, 103, 512, 2740, 15485);
        free(0, 1324);
        countsAre(0, 1, 1, 2, 6, 23, 103, 513, 2762, 15793);
        free(0, 12345678, 123456789, 87654321);
        countsAre(0, 1, 1, 2, 6, 24, 120, 720, 5040, 40318);
        x.make(1, 1, 0);
        x.add(1, 2413);
        x.add(1, 3142);
        countsAre(1, 1, 1, 2, 6, 22, 90, 394, 1806, 8558);
        x.make(2, 2, 1);
        countsAre(2, 1, 1, 2, 5, 14, 42, 132, 429, 1430);
        x.make(3, 2, 2);
        countsAre(3, 1, 1, 2, 6, 24, 120, 720, 5018, 39374);
        x.make(2, 2, 2);
        x.make(3, 2, 1);
        dues(21, x.count(2, 7), 5018, x.count(3, 7), 429);
        x.make(4, 3, 1);
        countsAre(4, 1, 1, 1, 1, 1, 1, 1, 1, 1);
        x.make(4, 3, 7);
        countsAre(4, 1, 1, 2, 4, 8, 16, 32, 64, 128);
        x.make(4, 3, 4);
        countsAre(4, 1, 1, 2, 5, 12, 27, 58, 121, 248);
        x.make(4, 3, 80);
        countsAre(4, 1, 1, 2, 6, 24, 119, 662, 3728, 20160);
    }

    private void listed() {
        fresh();
        free(0, 231);
        int[] three = {123, 132, 213, 312, 321};
        for (int i = 0; i < 5; i++) {
            dues(22, x.ranked(0, 3, i), three[i]);
            dues(23, x.rank(0, three[i]), i);
            dues(24, x.next(0, three[i]), i < 4 ? three[i + 1] : -2);
        }
        dues(22, x.ranked(0, 3, 5), -2, x.ranked(0, 3, GREATEST_INT), -2, x.ranked(0, 0, 0), 0,
                x.ranked(0, 0, 1), -2, x.ranked(0, 1, 0), 1, x.ranked(0, 8, 0), 12345678,
                x.ranked(0, 8, 1429), 87654321, x.ranked(0, 8, 1430), -2, x.ranked(0, 3, -1), -1,
                x.ranked(0, 9, 0), -1, x.ranked(0, -1, 0), -1);
        dues(23, x.rank(0, 231), -2, x.rank(0, 0), 0, x.rank(0, 1), 0, x.rank(0, 87654321), 1429,
                x.rank(0, 123456789), -1, x.rank(0, 23145678), -2);
        dues(24, x.next(0, 2143), 3124, x.next(0, 231), 312, x.next(0, 0), -2, x.next(0, 1), -2,
                x.next(0, 23145678), 31245678, x.next(0, 87654321), -2,
                x.next(0, 123456789), -1, x.next(0, 12), 21);
        free(1, 1);
        dues(22, x.ranked(1, 1, 0), -2, x.ranked(1, 0, 0), 0);
        dues(23, x.rank(1, 1), -2, x.rank(1, 0), 0);
        dues(24, x.next(1, 12345), -2);
    }

    private void outersAre(int place, int... due) {
        for (int i = 0; i < due.length; i++) {
            dues(25, x.outer(place, i), due[i]);
        }
        dues(25, x.outer(place, due.length), -2, x.outer(place, GREATEST_INT), -2,
                x.outer(place, -1), -1, x.outer(place, LEAST_INT), -1);
    }

    private void outers() {
        fresh();
        free(0);
        outersAre(0);
        free(0, 1);
        outersAre(0, 1);
        free(0, 2314, 231, 21);
        outersAre(0, 21);
        free(0, 4321, 312, 132, 1234567);
        outersAre(0, 132, 312, 4321);
        free(0, 654321);
        outersAre(0, 654321);
        x.make(1, 2, 1);
        outersAre(1, 312);
        x.make(1, 2, 2);
        outersAre(1);
        x.make(1, 3, 1);
        outersAre(1, 21);
        x.make(1, 3, 7);
        outersAre(1, 213, 312);
        x.make(1, 3, 4);
        outersAre(1, 321, 2143, 3142);
    }

    private void kidsOfOrders() {
        fresh();
        free(0, 231);
        free(1);
        x.make(2, 2, 1);
        x.make(3, 3, 1);
        free(4, 12345678);
        dues(26, x.kids(0, 213), 3, x.kids(0, 231), 0, x.kids(0, 0), 1, x.kids(1, 0), 1,
                x.kids(1, 1), 2, x.kids(1, 1234567), 8, x.kids(1, 12345678), -1,
                x.kids(1, 123456789), -1, x.kids(2, 12), 2, x.kids(2, 21), 3,
                x.kids(3, 12), 1, x.kids(3, 21), 0, x.kids(4, 1234567), 7);
    }

    private void sameOnes() {
        fresh();
        free(0, 312);
        x.make(1, 2, 1);
        free(2, 231);
        free(3);
        x.make(4, 2, 2);
        free(5, 1234567);
        free(6, 654321);
        x.make(7, 3, 4);
        free(8, 321, 2143, 3142);
        free(9, 312, 4123);
        dues(27, x.same(0, 1), 1, x.same(1, 0), 1, x.same(2, 1), 0, x.same(3, 4), 1,
                x.same(3, 5), 1, x.same(3, 6), 0, x.same(7, 8), 1, x.same(0, 9), 1,
                x.same(3, 3), 1, x.same(0, 2), 0, x.same(0, 10), -11, x.same(10, 0), -11);
    }

    private void likeOnes() {
        fresh();
        free(0, 231);
        free(1, 213);
        free(2, 132);
        free(3, 312);
        free(4, 321);
        free(5);
        free(6, 231, 12);
        free(7, 21, 132);
        x.make(8, 1, 0);
        x.add(8, 231);
        dues(28, x.like(0, 0), 0, x.like(0, 1), 2, x.like(0, 2), 1, x.like(0, 3), 3,
                x.like(0, 4), -2, x.like(0, 5), -2, x.like(5, 0), -2, x.like(5, 5), 0,
                x.like(6, 7), 1, x.like(0, 6), -2, x.like(6, 0), -2, x.like(0, 8), 0,
                x.like(8, 3), 3);
        int[] of1342 = {1342, 2431, 4213, 3124, 1423, 4132, 3241, 2314};
        free(9, 1342);
        for (int turn = 0; turn < 8; turn++) {
            free(10, of1342[turn]);
            dues(28, x.like(9, 10), turn);
        }
    }

    private void turnedClasses() {
        fresh();
        free(0, 231, 4321);
        dues(29, x.turnedClass(0, 2, 2), 2, x.look(2, 0), 0, x.look(2, 2), 213, x.look(2, 3), 1234,
                x.look(0, 2), 231, x.count(2, 6), x.count(0, 6));
        dues(29, x.turnedClass(0, 1, 0), 2, x.look(0, 2), 132, x.look(0, 3), 1234);
        x.make(3, 1, 0);
        x.add(3, 231);
        dues(29, x.turnedClass(3, 0, 4), 1, x.look(4, 0), 0, x.look(3, 0), 1, x.add(4, 132), 2,
                x.turnedClass(3, 1, 3), 1, x.look(3, 0), 0, x.look(3, 2), 132);
        dues(29, x.make(5, 0, 0), 0, x.turnedClass(5, 7, 6), 0, x.count(6, 3), 6);
        dues(29, x.count(2, 3), 5, x.turnedClass(5, 0, 2), 0, x.count(2, 3), 6);
        dues(29, x.turnedClass(0, 8, 1), -1, x.turnedClass(0, -1, 1), -1, x.look(1, 0), -11,
                x.turnedClass(7, 0, 1), -11, x.make(7, 2, 1), 0, x.turnedClass(7, 0, 1), -12,
                x.make(7, 3, 1), 0, x.turnedClass(7, 0, 1), -12, x.look(1, 0), -11);
    }

    private void wrongPlaces() {
        fresh();
        free(0);
        for (int wrong : NO_PLACES) {
            dues(16, x.make(wrong, 0, 0), -1);
            dues(17, x.add(wrong, 21), -1);
            dues(18, x.thin(wrong), -1);
            dues(19, x.look(wrong, 0), -1);
            dues(20, x.in(wrong, 1), -1);
            dues(21, x.count(wrong, 1), -1);
            dues(22, x.ranked(wrong, 1, 0), -1);
            dues(23, x.rank(wrong, 1), -1);
            dues(24, x.next(wrong, 1), -1);
            dues(25, x.outer(wrong, 0), -1);
            dues(26, x.kids(wrong, 1), -1);
            dues(27, x.same(wrong, 0), -1, x.same(0, wrong), -1);
            dues(28, x.like(wrong, 0), -1, x.like(0, wrong), -1);
            dues(29, x.turnedClass(wrong, 0, 0), -1, x.turnedClass(0, 0, wrong), -1);
            dues(31, x.all(wrong, 1, 1), -1);
            dues(36, x.keep(0, 1, wrong, 0), -1, x.keep(0, 4, wrong, 0), -1);
        }
    }

    private void emptyPlaces() {
        fresh();
        free(0);
        for (int place = 1; place < 12; place++) {
            dues(17, x.add(place, 21), -11);
            dues(18, x.thin(place), -11);
            dues(19, x.look(place, 2), -11);
            dues(20, x.in(place, 1), -11);
            dues(21, x.count(place, 8), -11);
            dues(22, x.ranked(place, 1, 0), -11);
            dues(23, x.rank(place, 1), -11);
            dues(24, x.next(place, 21), -11);
            dues(25, x.outer(place, 0), -11);
            dues(26, x.kids(place, 1), -11);
            dues(27, x.same(place, 0), -11, x.same(0, place), -11);
            dues(28, x.like(place, 0), -11, x.like(0, place), -11);
            dues(29, x.turnedClass(place, 0, 0), -11);
            dues(31, x.all(place, 1, 1), -11);
            dues(36, x.keep(0, 1, place, 0), -11, x.keep(0, 4, place, 0), -11);
        }
    }

    /** A number out of range is told ahead of a PLACE that is empty, and so on. */
    private void refusalsInOrder() {
        fresh();
        x.make(0, 2, 1);
        dues(17, x.add(5, 0), -1, x.add(5, 11), -1, x.add(0, 11), -1);
        dues(19, x.look(5, -1), -1);
        dues(20, x.in(5, 11), -1);
        dues(21, x.count(5, 9), -1);
        dues(22, x.ranked(5, 9, 0), -1, x.ranked(5, 3, -1), -1);
        dues(23, x.rank(5, 123456789), -1);
        dues(24, x.next(5, 123456789), -1);
        dues(25, x.outer(5, -1), -1);
        dues(26, x.kids(5, 12345678), -1);
        dues(27, x.same(5, 12), -1);
        dues(28, x.like(5, 12), -1, x.like(0, 12), -1, x.like(0, 5), -12, x.like(5, 0), -11);
        free(1);
        dues(28, x.like(1, 5), -11, x.like(1, 0), -12, x.like(0, 1), -12);
        dues(29, x.turnedClass(5, 8, 0), -1, x.turnedClass(5, 0, 12), -1, x.turnedClass(0, 8, 0), -1);
        dues(31, x.all(5, 8, 1), -1, x.all(5, 1, 11), -1);
        dues(34, x.merges(21, 11, 21), -1, x.merges(21, 123, 11), -1);
    }

    // ---- 30 to 35

    private void meanIs(int pattern, int n, int upper, int lower) {
        dues(30, x.mean(pattern, n, 0), upper, x.mean(pattern, n, 1), lower);
    }

    private void means() {
        fresh();
        meanIs(21, 5, 5, 1);
        meanIs(321, 5, 5, 3);
        meanIs(1, 9, 9, 1);
        meanIs(1, 1, 1, 1);
        meanIs(123456789, 9, 1, 362880);
        meanIs(1234, 9, 21, 4);
        meanIs(4321, 9, 21, 4);
        meanIs(21, 2, 1, 2);
        meanIs(213, 4, 2, 3);
        meanIs(12345, 9, 21, 20);
        dues(30, x.mean(21, 1, 0), -1, x.mean(1, 0, 0), -1, x.mean(0, 5, 0), -1, x.mean(0, 0, 1), -1,
                x.mean(21, 10, 0), -1, x.mean(21, -1, 0), -1, x.mean(21, 5, 2), -1,
                x.mean(21, 5, -1), -1, x.mean(21, GREATEST_INT, 0), -1);
    }

    private void allOfAClass() {
        fresh();
        free(0);
        x.make(1, 1, 0);
        x.add(1, 231);
        x.add(1, 321);
        x.make(2, 2, 1);
        x.make(3, 3, 1);
        dues(31, x.all(0, 4, 21), 72, x.all(1, 4, 21), 12, x.all(0, 0, 0), 1, x.all(0, 3, 0), 6,
                x.all(0, 3, 1), 18, x.all(0, 7, 21), 52920, x.all(0, 3, 4321), 0,
                x.all(0, 0, 1), 0, x.all(2, 3, 312), 0, x.all(2, 3, 12), 8,
                x.all(3, 7, 12), 21, x.all(3, 7, 21), 0,
                x.all(0, 8, 21), -1, x.all(0, -1, 21), -1);
    }

    private void fullest() {
        fresh();
        dues(32, x.most(132, 5), 6, x.most(12, 4), 6, x.most(21, 4), 6, x.most(0, 3), 1,
                x.most(0, 0), 1, x.most(1, 0), 0, x.most(1, 7), 7, x.most(321, 2), 0,
                x.most(123, 7), 35, x.most(1234567, 7), 1, x.most(123456789, 7), 0,
                x.most(21, 8), -1, x.most(21, -1), -1, x.most(21, GREATEST_INT), -1);
        dues(33, x.packed(132, 5), 12543, x.packed(12, 4), 1234, x.packed(21, 4), 4321,
                x.packed(0, 3), 123, x.packed(0, 0), 0, x.packed(1, 0), 0, x.packed(321, 2), 12,
                x.packed(1, 7), 1234567, x.packed(7654321, 7), 7654321,
                x.packed(21, 8), -1, x.packed(21, -1), -1);
    }

    private void merged() {
        fresh();
        dues(34, x.merges(2143, 21, 21), 2, x.merges(2143, 21, 12), 0, x.merges(21, 1, 21), -2,
                x.merges(0, 0, 0), 1, x.merges(21, 0, 21), 1, x.merges(21, 21, 0), 1,
                x.merges(21, 12, 0), 0, x.merges(21, 1, 1), 2, x.merges(123, 12, 1), 3,
                x.merges(1234, 12, 12), 6, x.merges(2143, 12, 12), 4, x.merges(132, 1, 21), 1,
                x.merges(2413, 12, 21), 1, x.merges(123456789, 1234, 12345), 126,
                x.merges(123456789, 0, 123456789), 1, x.merges(0, 1, 0), -2, x.merges(1, 0, 0), -2,
                x.merges(1, 123456789, 123456789), -2);
    }

    private void rowsOfPlaces() {
        fresh();
        dues(35, x.rows(31524, false), 2, x.rows(31524, true), 3, x.rows(0, false), 0,
                x.rows(0, true), 0, x.rows(1, false), 1, x.rows(1, true), 1, x.rows(123, false), 1,
                x.rows(123, true), 3, x.rows(321, false), 3, x.rows(321, true), 1,
                x.rows(987654321, false), 9, x.rows(456123, false), 2, x.rows(456123, true), 3);
    }

    // ---- 36 to 42

    private long element(int d, int i) {
        try {
            return x.element(d, i);
        } catch (IllegalArgumentException noShelf) {
            return NO_SHELF;
        } catch (IllegalStateException noElement) {
            return NO_ELEMENT;
        }
    }

    private void shelfIs(int promise, int d, int... due) {
        for (int i = 0; i < due.length; i++) {
            dues(promise, element(d, i), due[i]);
        }
        dues(promise, element(d, due.length), NO_ELEMENT);
    }

    private void keeps() {
        fresh();
        free(0, 321);
        dues(36, x.keep(0, 1, 0, 0), 0, x.weight(0), 11, x.keep(1, 3, 0, 3142), 0,
                x.keep(2, 4, 0, 0), 0);
        shelfIs(36, 1, 3, 1, 4, 2);
        shelfIs(36, 2, 1, 1, 2, 5, 14, 42, 132);
        // The CLASS is kept as it is then, and so are the numbers.
        dues(36, x.add(0, 123), 2, x.weight(0), 11, x.keep(0, 1, 0, -7), 0, x.weight(0), 12,
                x.make(0, 2, 1), 0, x.weight(0), 12);
        shelfIs(36, 2, 1, 1, 2, 5, 14, 42, 132);
        dues(36, x.keep(0, 0, 0, 0), 0, x.weight(0), -11, x.keep(0, 0, 99, -5), 0,
                x.keep(3, 3, 99, 21), 0, x.keep(4, 3, 0, 0), 0, x.read(4), 0);
        shelfIs(36, 4);
        shelfIs(36, 3, 2, 1);
        dues(36, x.keep(5, 4, 0, 11), 0);
        shelfIs(36, 5, 1, 1, 2, 5, 14, 42, 132);
        x.make(1, 2, 2);
        x.keep(5, 4, 1, 0);
        shelfIs(36, 5, 1, 1, 2, 6, 24, 120, 720);
        for (int what : new int[] {2, 5, -1, LEAST_INT, GREATEST_INT}) {
            dues(36, x.keep(3, what, 0, 21), -1, x.keep(3, what, 7, 21), -1);
        }
        for (int wrong : NO_SHELVES) {
            dues(36, x.keep(wrong, 0, 0, 0), -1, x.keep(wrong, 1, 0, 0), -1,
                    x.keep(wrong, 3, 0, 1), -1, x.keep(wrong, 1, 7, 0), -1);
        }
        shelfIs(36, 3, 2, 1);
    }

    private void rowsOfZeros() {
        fresh();
        dues(37, x.row(0, 3, 4), 0, x.row(1, 4, 2), 0, x.row(2, 3, 0), 0, x.row(3, 4, 60), 0,
                x.row(4, 3, 60), 0, element(3, 59), 0, element(3, 60), NO_ELEMENT,
                element(4, 59), 0, element(4, 60), NO_ELEMENT);
        shelfIs(37, 0, 0, 0, 0, 0);
        shelfIs(37, 1, 0, 0);
        shelfIs(37, 2);
        dues(37, x.read(2), 0, x.read(1), -12);
        dues(37, x.row(0, 3, -1), -14, x.row(0, 4, LEAST_INT), -14, x.row(0, 3, 61), -1,
                x.row(0, 4, GREATEST_INT), -1);
        for (int what : new int[] {0, 1, 2, 5, -1}) {
            dues(37, x.row(0, what, 3), -1, x.row(0, what, -1), -1);
        }
        for (int wrong : NO_SHELVES) {
            dues(37, x.row(wrong, 3, 3), -1, x.row(wrong, 3, -1), -1);
        }
        shelfIs(37, 0, 0, 0, 0, 0);
    }

    private void elements() {
        fresh();
        free(0, 21);
        x.keep(0, 1, 0, 0);
        x.keep(1, 3, 0, 987654321);
        x.keep(2, 4, 0, 0);
        dues(38, element(1, 0), 9, element(1, 8), 1, element(1, 9), NO_ELEMENT,
                element(1, -1), NO_ELEMENT, element(1, LEAST_INT), NO_ELEMENT,
                element(1, GREATEST_INT), NO_ELEMENT, element(2, 6), 1, element(2, 7), NO_ELEMENT,
                element(0, 0), NO_ELEMENT, element(3, 0), NO_ELEMENT);
        for (int wrong : NO_SHELVES) {
            dues(38, element(wrong, 0), NO_SHELF, element(wrong, -1), NO_SHELF);
        }
    }

    private void copies() {
        fresh();
        x.keep(0, 3, 0, 123456);
        x.row(1, 3, 3);
        dues(39, x.copy(0, 2, 1, 1, 2), 2);
        shelfIs(39, 1, 0, 3, 4);
        dues(39, x.copy(0, 0, 0, 2, 4), 4);
        shelfIs(39, 0, 1, 2, 1, 2, 3, 4);
        dues(39, x.copy(0, 2, 0, 0, 4), 4);
        shelfIs(39, 0, 1, 2, 3, 4, 3, 4);
        dues(39, x.copy(0, 0, 1, 0, 0), 0, x.copy(0, 6, 1, 3, 0), 0, x.copy(0, 7, 1, 3, 0), -13,
                x.copy(0, 6, 1, 4, 0), -13, x.copy(0, 6, 1, 3, 1), -13, x.copy(0, 0, 1, 0, 4), -13,
                x.copy(0, 4, 1, 0, 3), -13, x.copy(0, 0, 1, 1, 3), -13, x.copy(0, -1, 1, 0, 1), -13,
                x.copy(0, 0, 1, -1, 1), -13, x.copy(0, 0, 1, 0, -1), -13,
                x.copy(0, GREATEST_INT, 1, 0, GREATEST_INT), -13,
                x.copy(0, 1, 1, 1, GREATEST_INT), -13, x.copy(0, 1, 1, GREATEST_INT, 1), -13,
                x.copy(0, LEAST_INT, 1, 0, 1), -13, x.copy(0, 0, 1, 0, 3), 3);
        shelfIs(39, 1, 1, 2, 3);
        free(0);
        x.row(2, 4, 9);
        x.keep(3, 4, 0, 0);
        x.keep(4, 1, 0, 0);
        dues(39, x.copy(3, 3, 2, 5, 4), 4);
        shelfIs(39, 2, 0, 0, 0, 0, 0, 6, 24, 120, 720);
        dues(39, x.copy(0, 0, 2, 0, 1), -12, x.copy(2, 0, 0, 0, 1), -12, x.copy(4, 0, 0, 0, 1), -12,
                x.copy(0, 0, 4, 0, 1), -12, x.copy(4, 0, 4, 0, 0), -12, x.copy(0, -1, 2, 0, 1), -12,
                x.copy(5, 0, 0, 0, 1), -11, x.copy(0, 0, 5, 0, 1), -11, x.copy(4, 0, 5, 0, 1), -11,
                x.copy(5, 0, 4, 0, 1), -11, x.copy(5, -1, 5, -1, -1), -11);
        for (int wrong : NO_SHELVES) {
            dues(39, x.copy(wrong, 0, 0, 0, 1), -1, x.copy(0, 0, wrong, 0, 1), -1,
                    x.copy(wrong, 0, 5, 0, 1), -1, x.copy(5, -1, wrong, 0, 1), -1);
        }
    }

    private void reads() {
        fresh();
        free(0);
        x.keep(0, 3, 0, 3142);
        x.row(1, 3, 4);
        dues(40, x.read(0), 3142, x.read(1), -2, x.copy(0, 0, 1, 0, 3), 3, x.read(1), 3241,
                x.copy(0, 0, 1, 1, 3), 3, x.read(1), -2);
        x.keep(2, 3, 0, 987654321);
        x.row(3, 3, 10);
        dues(40, x.read(2), 987654321, x.read(3), -13, x.copy(2, 0, 3, 0, 9), 9, x.read(3), -13,
                x.row(3, 3, 9), 0, x.read(3), -2, x.row(3, 3, 1), 0, x.read(3), 1,
                x.row(3, 3, 0), 0, x.read(3), 0);
        // Numbers that don't follow one another, 0 among them, stand as an ORDER all the same.
        x.row(3, 3, 3);
        dues(40, x.copy(2, 0, 3, 0, 1), 1, x.copy(2, 5, 3, 2, 1), 1, x.read(3), 312);
        x.keep(4, 4, 0, 0);
        x.keep(5, 1, 0, 0);
        dues(40, x.read(4), -12, x.read(5), -12, x.row(4, 4, 0), 0, x.read(4), -12,
                x.row(4, 4, 10), 0, x.read(4), -12, x.keep(4, 0, 0, 0), 0, x.read(4), -11);
        for (int wrong : NO_SHELVES) {
            dues(40, x.read(wrong), -1);
        }
    }

    private long weightOf(int kind, int told, int... patterns) {
        x.make(0, kind, told);
        for (int pattern : patterns) {
            x.add(0, pattern);
        }
        x.keep(0, 1, 0, 0);
        return x.weight(0);
    }

    private void weights() {
        fresh();
        dues(41, weightOf(0, 0), 10, weightOf(0, 0, 231, 12), 12,
                weightOf(0, 0, 231, 12, 132, 1, 21, 321), 16, weightOf(1, 0), 20,
                weightOf(1, 0, 231), 22, weightOf(1, 0, 231, 21, 321, 4321, 1, 54321), 32,
                weightOf(2, 1), 101, weightOf(2, 2), 102, weightOf(3, 1), 1101,
                weightOf(3, 4), 1102, weightOf(3, 13), 1103, weightOf(3, 80), 1104);
        x.row(1, 3, 2);
        x.row(2, 4, 2);
        dues(41, x.weight(1), -12, x.weight(2), -12, x.weight(3), -11);
        free(1, 2314, 231);
        dues(41, x.keep(4, 1, 1, 0), 0, x.thin(1), 1, x.weight(4), 12, x.keep(4, 1, 1, 0), 0,
                x.weight(4), 11);
        for (int wrong : NO_SHELVES) {
            dues(41, x.weight(wrong), -1);
        }
    }

    private long tossOf(int kind, int told) {
        x.make(0, kind, told);
        x.keep(0, 1, 0, 0);
        return x.toss(0);
    }

    private void tosses() {
        fresh();
        dues(42, tossOf(2, 1), 1, tossOf(2, 2), 2, tossOf(3, 1), 1, tossOf(3, 2), 1, tossOf(3, 7), 2,
                tossOf(3, 13), 3, tossOf(3, 40), 4, tossOf(0, 0), -15, tossOf(1, 0), -15);
        x.row(1, 3, 2);
        x.row(2, 4, 2);
        dues(42, x.toss(1), -12, x.toss(2), -12, x.toss(3), -11);
        for (int wrong : NO_SHELVES) {
            dues(42, x.toss(wrong), -1);
        }
    }

    private void refusedCallsChangeNothing() {
        fresh();
        free(0, 231, 4321);
        x.make(1, 2, 2);
        x.make(2, 1, 0);
        x.add(2, 21);
        dues(16, x.make(0, 3, 3), -1, x.make(0, 2, 3), -1, x.make(1, 4, 0), -1, x.look(0, 1), 2,
                x.look(1, 1), 2);
        dues(17, x.add(0, 231), -3, x.add(0, 11), -1, x.add(2, 132), -3, x.add(1, 21), -12,
                x.look(0, 1), 2, x.look(2, 1), 1, x.look(1, 1), 2, x.look(0, 4), -2);
        dues(18, x.thin(1), -12, x.look(1, 0), 2);
        dues(29, x.turnedClass(1, 0, 0), -12, x.turnedClass(5, 0, 0), -11,
                x.turnedClass(0, 8, 1), -1, x.look(0, 2), 231, x.look(1, 0), 2);
        x.keep(0, 3, 0, 312);
        x.keep(1, 1, 0, 0);
        dues(36, x.keep(0, 1, 5, 0), -11, x.keep(0, 4, 5, 0), -11, x.keep(0, 3, 0, 11), -1,
                x.keep(0, 2, 0, 0), -1, x.keep(1, 1, 12, 0), -1, x.weight(1), 12, x.read(0), 312);
        dues(37, x.row(0, 3, -1), -14, x.row(0, 3, 61), -1, x.row(0, 2, 1), -1, x.read(0), 312);
        x.keep(2, 3, 0, 123);
        dues(39, x.copy(0, 0, 2, 1, 3), -13, x.copy(0, 1, 2, 0, 3), -13, x.copy(0, 0, 1, 0, 1), -12,
                x.copy(0, 0, 2, 0, -1), -13, x.read(2), 123, x.weight(1), 12);
    }
}
