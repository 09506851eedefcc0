/** What it is, and Terms: the sentences that name a boundary case. */
final class TermBoundaryTests extends Sentences {
    TermBoundaryTests(Checks checks) {
        super(checks);
    }

    @Override
    void run() {
        callsUpToTheLast();
        lastCallsOfEachKind();
        ordersAtTheEdge();
        patternsAtTheEdge();
        turnsAtTheEdge();
        sumsAtTheEdge();
        partsAtTheEdge();
        emptyAndFullClasses();
        cellsAtTheEdge();
        stacksAtTheEdge();
        outerOnesAtTheEdge();
        shapesAtTheEdge();
        shelvesAtTheEdge();
    }

    /** Sixteen calls, 32 times: the last one is the 512th. */
    private void callsUpToTheLast() {
        heading("What it is");
        for (int round = 0; round < 32; round++) {
            int p = round % 12;
            int q = (round + 5) % 12;
            int d = round % 6;
            int e = (round + 1) % 6;
            says("at most 512 calls", x.make(p, 0, 0), 0, x.add(p, 1234), 1, x.count(p, 8), 15767,
                    x.ranked(p, 8, 15766), EIGHT_FALLING, x.turnedClass(p, 1, q), 1,
                    x.like(p, q), 1, x.add(q, 1), 2, x.same(p, q), 0, x.keep(d, 1, q, 0), 0,
                    x.weight(d), 12, x.row(e, 3, 60), 0, x.copy(e, 0, e, 30, 30), 30,
                    element(e, 59), 0, x.outer(p, 0), 1234, x.all(q, 1, 1), 0,
                    x.rank(p, EIGHT_FALLING), 15766);
        }
    }

    private void lastCallsOfEachKind() {
        heading("What it is");
        for (int call = 1; call <= 512; call++) {
            says("at most 512 calls", x.make(call % 12, call % 4, 1 + call % 2), 0);
        }
        heading("What it is");
        for (int call = 1; call <= 512; call++) {
            says("at most 512 calls", x.row(call % 6, 3 + call % 2, 60), 0);
        }
        heading("What it is");
        for (int call = 1; call <= 512; call++) {
            says("at most 512 calls", x.times(NINE_RISING, 1234), 126);
        }
        heading("What it is");
        x.make(0, 2, 2);
        for (int call = 2; call <= 512; call++) {
            says("at most 512 calls",
                    call % 2 == 0 ? x.in(0, 61482537) : x.in(0, NINE_FALLING), call % 2);
        }
        heading("What it is");
        x.make(0, 3, 80);
        x.keep(0, 1, 0, 0);
        for (int call = 3; call <= 512; call++) {
            says("at most 512 calls", x.toss(0), 4);
        }
        heading("What it is");
        for (int call = 1; call <= 512; call++) {
            says("at most 512 calls", element(5, 0), NO_ELEMENT);
        }
    }

    private void ordersAtTheEdge() {
        heading("Terms: an ORDER");
        says("of n (0 .. 9)", x.length(0), 0, x.length(NINE_RISING), 9, x.length(NINE_FALLING), 9,
                x.length(1234567890), -1, x.length(2147483647), -1, x.length(-1), -1,
                x.length(LEAST), -1);
        says("a row of 1 .. n", x.length(1), 1, x.length(2), -1, x.length(9), -1, x.length(10), -1,
                x.length(13), -1, x.length(20), -1, x.length(201), -1, x.length(EIGHT_RISING), 8,
                x.length(12345679), -1, x.length(23456789), -1, x.length(102345678), -1,
                x.length(987654320), -1);
        says("each once", x.length(11), -1, x.length(22), -1, x.length(112), -1, x.length(1231), -1,
                x.length(112345678), -1, x.length(123456788), -1, x.length(999999999), -1);
        says("the first one the highest (the empty one: 0)", x.turned(0, 1), 0, x.without(12, 1), 1,
                x.without(1, 0), 0, x.sum(0, 21, false), 21);
        free(0, 21, 123);
        says("of unlike n the shorter comes first", x.outer(0, 0), 21, x.outer(0, 1), 123,
                x.outer(0, 2), -2);
    }

    private void patternsAtTheEdge() {
        heading("Terms: it HOLDS another one");
        says("the empty one is held by all", x.holds(0, 0), 1, x.holds(1, 0), 1,
                x.holds(NINE_RISING, 0), 1, x.times(0, 0), 1, x.times(NINE_FALLING, 0), 1);
        says("no longer one is held", x.holds(0, 1), 0, x.holds(1, 12), 0,
                x.holds(EIGHT_RISING, NINE_RISING), 0, x.times(EIGHT_RISING, NINE_RISING), 0);
        says("one of the same n is held by itself alone", x.holds(1, 1), 1, x.holds(12, 21), 0,
                x.holds(NINE_RISING, NINE_RISING), 1, x.holds(NINE_RISING, 123456798), 0,
                x.times(NINE_FALLING, NINE_FALLING), 1);
    }

    private void turnsAtTheEdge() {
        heading("Terms: TURNS");
        for (int turn = 0; turn < 8; turn++) {
            boolean falls = turn == 1 || turn == 2 || turn == 5 || turn == 6;
            says("0 .. 7", x.turned(0, turn), 0, x.turned(1, turn), 1,
                    x.turned(12, turn), falls ? 21 : 12,
                    x.turned(NINE_RISING, turn), falls ? NINE_FALLING : NINE_RISING);
        }
        says("0 .. 7", x.turned(1, -1), -1, x.turned(1, 8), -1, x.turned(0, 8), -1);
    }

    private void sumsAtTheEdge() {
        heading("Terms: SUM, SKEW, PUT");
        says("a SUM with the empty one", x.sum(0, 0, false), 0, x.sum(0, 0, true), 0,
                x.sum(0, NINE_FALLING, false), NINE_FALLING,
                x.sum(NINE_RISING, 0, true), NINE_RISING);
        says("k ORDERS (not empty)", x.put(1, 0, 1), 1, x.put(1, 0, 0), -1, x.put(0, 0, 1), -1);
    }

    private void partsAtTheEdge() {
        heading("Terms: SPAN, SIMPLE, PIECE, PARTS");
        says("two or more, but not all", x.spans(0), 0, x.spans(1), 0, x.spans(12), 0,
                x.spans(123), 2, x.spans(213), 1, x.spans(231), 1, x.spans(2413), 0,
                x.spans(NINE_RISING), 35, x.spans(NINE_FALLING), 35);
        says("two or more without any SPAN", x.simple(0), 0, x.simple(1), 0, x.simple(2), 2,
                x.simple(3), 0, x.simple(4), 2);
        sums(0, 1, 21, 231, 312, 321, NINE_FALLING);
        sums(1);
        says("it is no SUM of two that aren't empty", x.look(0, 1), 6, x.add(1, 12), -3,
                x.add(1, 132), -3, x.add(1, 213), -3, x.add(1, NINE_RISING), -3,
                x.add(1, 213456789), -3, x.add(1, 132456789), -3, x.add(1, 876543219), -3,
                x.add(1, 198765432), -3, x.add(1, 918765432), 1);
        says("of an ORDER of two or more", x.parts(0, 0), 0, x.parts(1, 0), 0, x.parts(12, 0), 1,
                x.parts(21, 0), 2, x.parts(2413, 0), 3);
        says("(its KIND 2, of SUMS 1)", x.parts(NINE_RISING, 0), 1, x.parts(NINE_FALLING, 0), 2,
                x.parts(132, 0), 1, x.parts(312, 0), 2);
        says("the greatest SPANS and single places", x.parts(246813579, 0), 1,
                x.parts(468135792, 0), 3, x.parts(468135792, 1), 9, x.parts(25314, 1), 5,
                x.parts(341256, 0), 1, x.parts(345612897, 0), 1, x.parts(567891423, 0), 2,
                x.parts(678912453, 0), 2, x.parts(345678192, 0), 3, x.parts(345678192, 1), 4,
                x.parts(345678192, 2), 3142, x.parts(345678192, 3), 123456);
    }

    private void emptyAndFullClasses() {
        heading("Terms: CLASSES");
        for (int place = 0; place < 12; place++) {
            says("CLASSES 0 .. 11 in PLACES, each empty at first", x.look(place, 0), -11,
                    x.look(place, 1), -11, x.look(place, 2), -11);
        }
        for (int place : OUTSIDE_PLACES) {
            says("CLASSES 0 .. 11 in PLACES", x.look(place, 0), -1, x.make(place, 0, 0), -1);
        }
        classesOfAllKinds();
        int[] factorials = {1, 1, 2, 6, 24, 120, 720, 5040, 40320};
        for (int n = 0; n <= 8; n++) {
            says("all ORDERS that HOLD none: without PATTERNS all", x.count(4, n), factorials[n]);
            says("that HOLD none of 1: the empty one alone", x.count(5, n), n == 0 ? 1 : 0);
            says("that HOLD none of 12, 21: two of them", x.count(6, n), n <= 1 ? 1 : 0);
        }
        says("(of n 0 .. 9)", x.in(4, 0), 1, x.in(4, NINE_RISING), 1, x.in(4, NINE_FALLING), 1,
                x.in(5, 0), 1, x.in(5, 1), 0, x.in(5, NINE_RISING), 0, x.in(6, 1), 1,
                x.in(6, NINE_RISING), 0, x.in(6, NINE_FALLING), 0);
        free(8, NINE_FALLING);
        says("(of n 0 .. 9)", x.count(8, 8), 40320, x.in(8, EIGHT_FALLING), 1,
                x.in(8, NINE_FALLING), 0, x.in(8, 987654312), 1, x.outer(8, 0), -2);
        free(9, 1, 12, 21, 123, 321, NINE_RISING);
        says("none of its PATTERNS (6 at most)", x.look(9, 1), 6, x.add(9, 132), -2,
                x.count(9, 1), 0);
    }

    private void cellsAtTheEdge() {
        heading("Terms: GRID");
        says("a row of 1 to 4 CELLS", x.make(0, 3, 0), -1, x.make(0, 3, 1), 0, x.look(0, 1), 1,
                x.make(1, 3, 2), 0, x.look(1, 1), 1, x.make(2, 3, 40), 0, x.look(2, 1), 4,
                x.make(3, 3, 80), 0, x.look(3, 1), 4, x.make(4, 3, 121), -1, x.make(4, 3, 242), -1,
                x.look(4, 0), -11);
        says("rising (1) or falling (-1)", x.in(0, NINE_RISING), 1, x.in(0, 21), 0,
                x.in(1, NINE_FALLING), 1, x.in(1, 12), 0);
        for (int place = 0; place < 4; place++) {
            says("(empty ones, too)", x.in(place, 0), 1, x.in(place, 1), 1, x.count(place, 0), 1,
                    x.count(place, 1), 1, x.count(place, 2), place < 2 ? 1 : 2);
        }
        // 4 rising CELLS: three falls at most; 4 falling ones: three rises at most.
        says("cut into so many stretches", x.in(2, 4321), 1, x.in(2, 54321), 0,
                x.in(2, NINE_FALLING), 0, x.in(2, 896745123), 1, x.in(3, 1234), 1,
                x.in(3, 12345), 0, x.in(3, 214365987), 1, x.in(3, 214365897), 0);
        x.make(5, 3, 7);
        x.make(6, 3, 5);
        says("(empty ones, too)", x.in(5, NINE_RISING), 1, x.in(5, NINE_FALLING), 1, x.in(5, 12), 1,
                x.in(5, 21), 1, x.in(6, NINE_RISING), 1, x.in(6, NINE_FALLING), 1,
                x.in(5, 123459876), 1, x.in(5, 213), 0, x.in(6, 213), 1, x.in(6, 132), 0);
        // Rising, falling, rising: the falling CELL in the middle may be empty, or have one number.
        x.make(7, 3, 16);
        says("(empty ones, too)", x.look(7, 1), 3, x.in(7, NINE_RISING), 1,
                x.in(7, NINE_FALLING), 1, x.in(7, 2134), 1, x.in(7, 2143), 0);
    }

    private void stacksAtTheEdge() {
        heading("Terms: STACKED");
        says("s stacks (1 or 2)", x.make(0, 2, 0), -1, x.look(0, 0), -11, x.make(0, 2, 1), 0,
                x.look(0, 1), 1, x.make(1, 2, 2), 0, x.look(1, 1), 2, x.make(1, 2, 3), -1,
                x.look(1, 1), 2, x.make(0, 2, -1), -1, x.look(0, 1), 1);
        for (int place = 0; place < 2; place++) {
            says("the ORDERS that can come out", x.in(place, 0), 1, x.in(place, 1), 1,
                    x.in(place, NINE_RISING), 1, x.in(place, NINE_FALLING), 1, x.count(place, 0), 1,
                    x.count(place, 1), 1, x.count(place, 2), 2, x.in(place, 312), place);
        }
        says("the ORDERS that can come out", x.count(0, 8), 1430, x.count(1, 6), 720,
                x.count(1, 7), 5018, x.count(1, 8), 39374);
    }

    private void outerOnesAtTheEdge() {
        heading("Terms: OUTER ones");
        classesOfAllKinds();
        says("that aren't in it", x.outer(4, 0), -2, x.outer(7, 0), -2);
        says("of which each that is left is", x.outer(5, 0), 1, x.outer(5, 1), -2,
                x.outer(6, 0), 12, x.outer(6, 1), 21, x.outer(6, 2), -2);
    }

    private void shapesAtTheEdge() {
        heading("Terms: SHAPE");
        says("if it is greater than all there", x.shape(12, 0), 2, x.shape(12, 1), 0,
                x.shape(21, 0), 1, x.shape(21, 1), 1, x.shape(21, 2), 0);
        says("the longest rising row of places", x.shape(0, 0), 0, x.shape(1, 0), 1,
                x.shape(NINE_RISING, 0), 9, x.shape(NINE_RISING, 1), 0, x.shape(NINE_FALLING, 0), 1,
                x.shape(789456123, 0), 3, x.shape(789456123, 2), 3, x.shape(789456123, 3), 0);
    }

    private void shelvesAtTheEdge() {
        heading("Terms: SHELVES");
        for (int d = 0; d < 6; d++) {
            says("SHELVES 0 .. 5 each hold nothing (at first)", x.weight(d), -11, x.toss(d), -11,
                    x.read(d), -11, element(d, 0), NO_ELEMENT, x.copy(d, 0, d, 0, 0), -11);
        }
        for (int d : OUTSIDE_SHELVES) {
            says("SHELVES 0 .. 5", x.weight(d), -1, x.toss(d), -1, x.read(d), -1,
                    element(d, 0), NO_SHELF, x.row(d, 3, 1), -1, x.keep(d, 0, 0, 0), -1);
        }
        free(0, 4321, 321);
        says("a CLASS (as it is then)", x.keep(0, 1, 0, 0), 0, x.keep(1, 4, 0, 0), 0, x.thin(0), 1,
                x.weight(0), 12, x.keep(2, 1, 0, 0), 0, x.weight(2), 11, x.add(0, 21), 2,
                x.weight(0), 12, x.weight(2), 11, x.turnedClass(0, 1, 0), 2, x.add(0, 4321), 3,
                x.weight(0), 12, x.make(0, 3, 80), 0, x.weight(0), 12, x.toss(0), -15,
                x.keep(3, 1, 0, 0), 0, x.make(0, 2, 1), 0, x.toss(3), 4, x.weight(3), 1104,
                x.keep(4, 1, 0, 0), 0, x.make(0, 2, 2), 0, x.toss(4), 1, x.weight(4), 101);
        rowIs("a ROW stays as it was then", 1, 1, 1, 2, 5, 14, 42, 132);
    }
}
