/** Promises 16 to 29: the sentences that name a boundary case. */
final class ClassBoundaryTests extends Sentences {
    ClassBoundaryTests(Checks checks) {
        super(checks);
    }

    @Override
    void run() {
        making();
        adding();
        thinning();
        looking();
        having();
        counting();
        ranking();
        rankOf();
        following();
        outerOnes();
        kidsCounted();
        sameOrders();
        likePatterns();
        turnedOnes();
    }

    private void making() {
        heading("Promise 16: make");
        says("A PLACE 0 .. 11", x.make(0, 0, 0), 0, x.make(11, 0, 0), 0, x.make(-1, 0, 0), -1,
                x.make(12, 0, 0), -1, x.make(LEAST, 2, 1), -1, x.make(GREATEST, 3, 1), -1);
        says("of KIND 0, 1 without PATTERNS", x.make(1, 0, 0), 0, x.look(1, 0), 0, x.look(1, 1), 0,
                x.make(1, 1, 0), 0, x.look(1, 0), 1, x.look(1, 1), 0, x.make(1, -1, 0), -1,
                x.make(1, 4, 1), -1, x.make(1, LEAST, 1), -1, x.make(1, GREATEST, 1), -1,
                x.look(1, 0), 1);
        says("of 2 with so many stacks", x.make(2, 2, 1), 0, x.look(2, 1), 1, x.make(2, 2, 2), 0,
                x.look(2, 1), 2, x.make(2, 2, 0), -1, x.make(2, 2, 3), -1, x.make(2, 2, LEAST), -1,
                x.make(2, 2, GREATEST), -1, x.look(2, 1), 2);
        for (int told = -3; told <= 250; told++) {
            String digits = told < 0 ? "" : Integer.toString(told, 3);
            boolean good = digits.matches("[12]{1,4}");
            says("digits to the base 3 (1 rising, 2 falling)", x.make(3, 3, told), good ? 0 : -1);
            if (good) {
                says("digits to the base 3", x.look(3, 0), 3, x.look(3, 1), digits.length());
            }
        }
        says("digits to the base 3", x.make(3, 3, LEAST), -1, x.make(3, 3, GREATEST), -1,
                x.look(3, 1), 4);
        says("the lowest digit the first CELL", x.make(4, 3, 7), 0, x.in(4, 132), 1,
                x.in(4, 213), 0, x.make(4, 3, 5), 0, x.in(4, 132), 0, x.in(4, 213), 1);
        free(5, 21);
        says("A CLASS without PATTERNS, in the place of another", x.make(5, 0, 0), 0,
                x.look(5, 1), 0, x.count(5, 2), 2, x.add(5, 21), 1, x.count(5, 2), 1,
                x.make(5, 2, 1), 0, x.count(5, 3), 5, x.make(5, 3, 1), 0, x.count(5, 3), 1,
                x.make(5, 1, 0), 0, x.count(5, 3), 6);
    }

    private void adding() {
        heading("Promise 17: add");
        free(0);
        says("A PATTERN (not empty)", x.add(0, 0), -1, x.look(0, 1), 0, x.add(0, 1), 1,
                x.add(0, NINE_FALLING), 2, x.add(0, 1234567890), -1, x.add(0, -1), -1,
                x.add(0, 11), -1);
        says("how many there are", x.add(0, 12), 3, x.add(0, 21), 4, x.add(0, 321), 5,
                x.add(0, 123), 6);
        says("-2: there are 6", x.add(0, 132), -2, x.add(0, 2413), -2, x.look(0, 1), 6,
                x.look(0, 7), 123);
        says("-11", x.add(1, 21), -11, x.add(11, 21), -11);
        x.make(2, 2, 1);
        x.make(3, 3, 1);
        says("-12: KIND 2, 3", x.add(2, 21), -12, x.add(3, 21), -12);
        free(4, 21);
        sums(5, 21);
        says("-3: it is there", x.add(4, 21), -3, x.add(5, 21), -3, x.add(4, 12), 2,
                x.add(4, 12), -3, x.add(4, 21), -3);
        says("-3: is no PIECE where it has to be", x.add(5, 12), -3, x.add(5, 1), 2,
                x.add(5, 132), -3, x.add(5, 231), 3, x.add(4, 132), 3, x.look(5, 1), 3,
                x.look(5, 4), 231);
        for (int place : OUTSIDE_PLACES) {
            says("-1", x.add(place, 21), -1);
        }
    }

    private void thinning() {
        heading("Promise 18: thin");
        free(0);
        free(1, 321);
        free(2, 12, 21);
        free(3, 654321, 54321, 4321, 321, 21, 1);
        free(4, 1, 21, 321, 4321, 54321, 654321);
        free(5, 4321, 3142, 132, 12345, 2413, NINE_FALLING);
        sums(6, 321, 231, 21);
        says("how many are left", x.thin(0), 0, x.look(0, 2), -2, x.thin(1), 1, x.look(1, 2), 321,
                x.thin(2), 2, x.look(2, 2), 12, x.look(2, 3), 21, x.thin(3), 1, x.look(3, 2), 1,
                x.look(3, 3), -2, x.thin(4), 1, x.look(4, 2), 1, x.add(4, 21), 2, x.thin(4), 1,
                x.thin(5), 3, x.look(5, 2), 4321, x.look(5, 3), 132, x.look(5, 4), 12345,
                x.look(5, 5), -2, x.thin(6), 1, x.look(6, 0), 1, x.look(6, 2), 21);
        x.make(7, 2, 2);
        x.make(8, 3, 80);
        says("-11, -12", x.thin(9), -11, x.thin(11), -11, x.thin(7), -12, x.thin(8), -12);
        for (int place : OUTSIDE_PLACES) {
            says("-1", x.thin(place), -1);
        }
    }

    private void looking() {
        heading("Promise 19: look");
        free(0);
        free(1, 1, 12, 21, 123, 321, NINE_RISING);
        sums(2, 231);
        x.make(3, 2, 2);
        x.make(4, 3, 80);
        says("0 KIND", x.look(0, 0), 0, x.look(1, 0), 0, x.look(2, 0), 1, x.look(3, 0), 2,
                x.look(4, 0), 3);
        says("1 how many PATTERNS, stacks, CELLS", x.look(0, 1), 0, x.look(1, 1), 6,
                x.look(2, 1), 1, x.look(3, 1), 2, x.look(4, 1), 4);
        says("2 + i PATTERN i (-2: none such)", x.look(0, 2), -2, x.look(1, 2), 1,
                x.look(1, 7), NINE_RISING, x.look(1, 8), -2, x.look(2, 2), 231, x.look(2, 3), -2,
                x.look(1, GREATEST), -2, x.look(0, 7), -2);
        says("of KINDS 2, 3 -12", x.look(3, 2), -12, x.look(3, 8), -12, x.look(4, 2), -12,
                x.look(4, GREATEST), -12);
        says("-1, -11", x.look(0, -1), -1, x.look(3, -1), -1, x.look(0, LEAST), -1,
                x.look(5, 0), -11, x.look(5, 1), -11, x.look(5, GREATEST), -11, x.look(5, -1), -1);
    }

    private void having() {
        heading("Promise 20: in");
        classesOfAllKinds();
        for (int place = 0; place < 8; place++) {
            says("Whether an ORDER is in a CLASS", x.in(place, 0), 1,
                    x.in(place, 1), place == 5 ? 0 : 1,
                    x.in(place, NINE_RISING), place == 5 || place == 6 ? 0 : 1);
            says("-1", x.in(place, 1234567890), -1, x.in(place, -1), -1, x.in(place, 11), -1);
        }
        says("Whether an ORDER is in a CLASS", x.in(0, NINE_FALLING), 1, x.in(0, 234567891), 0,
                x.in(1, NINE_FALLING), 0, x.in(2, NINE_FALLING), 1, x.in(2, 912345678), 0,
                x.in(3, 124689753), 1, x.in(3, 214689753), 0, x.in(4, NINE_FALLING), 1);
        says("-11", x.in(8, 0), -11, x.in(11, NINE_RISING), -11);
        for (int place : OUTSIDE_PLACES) {
            says("-1", x.in(place, 0), -1);
        }
    }

    private void counting() {
        heading("Promise 21: count");
        classesOfAllKinds();
        int[] ofEight = {1430, 1, 1430, 128, 40320, 0, 0, 39374};
        for (int place = 0; place < 8; place++) {
            says("of n (0 .. 8)", x.count(place, 8), ofEight[place], x.count(place, 0), 1,
                    x.count(place, -1), -1, x.count(place, 9), -1, x.count(place, LEAST), -1,
                    x.count(place, GREATEST), -1);
        }
        says("-11", x.count(8, 0), -11, x.count(11, 8), -11);
        for (int place : OUTSIDE_PLACES) {
            says("-1", x.count(place, 0), -1);
        }
    }

    private void ranking() {
        heading("Promise 22: ranked");
        classesOfAllKinds();
        says("ORDER number i, from 0", x.ranked(4, 0, 0), 0, x.ranked(4, 1, 0), 1,
                x.ranked(4, 2, 0), 12, x.ranked(4, 2, 1), 21, x.ranked(4, 8, 0), EIGHT_RISING,
                x.ranked(4, 8, 40319), EIGHT_FALLING, x.ranked(5, 0, 0), 0, x.ranked(6, 1, 0), 1);
        says("of n (0 .. 8)", x.ranked(4, -1, 0), -1, x.ranked(4, 9, 0), -1,
                x.ranked(4, GREATEST, 0), -1, x.ranked(4, LEAST, 0), -1);
        says("-1 (i below 0), -11", x.ranked(4, 3, -1), -1, x.ranked(5, 3, -1), -1,
                x.ranked(4, 3, LEAST), -1, x.ranked(8, 3, -1), -1, x.ranked(8, 3, 0), -11);
        says("-2: there are not so many", x.ranked(4, 0, 1), -2, x.ranked(4, 1, 1), -2,
                x.ranked(4, 8, 40320), -2, x.ranked(4, 8, GREATEST), -2, x.ranked(5, 1, 0), -2,
                x.ranked(5, 8, 0), -2, x.ranked(6, 2, 0), -2, x.ranked(0, 3, 4), 321,
                x.ranked(0, 3, 5), -2, x.ranked(7, 8, 39373), EIGHT_FALLING,
                x.ranked(7, 8, 39374), -2);
        for (int place : OUTSIDE_PLACES) {
            says("-1", x.ranked(place, 1, 0), -1);
        }
    }

    private void rankOf() {
        heading("Promise 23: rank");
        classesOfAllKinds();
        says("How many come before an ORDER", x.rank(4, 0), 0, x.rank(4, 1), 0, x.rank(4, 21), 1,
                x.rank(4, EIGHT_RISING), 0, x.rank(4, EIGHT_FALLING), 40319, x.rank(5, 0), 0,
                x.rank(6, 1), 0, x.rank(7, EIGHT_FALLING), 39373);
        says("-1 (of n above 8, too), -11", x.rank(4, NINE_RISING), -1, x.rank(0, NINE_FALLING), -1,
                x.rank(8, NINE_RISING), -1, x.rank(4, 1234567890), -1, x.rank(4, -1), -1,
                x.rank(8, 0), -11, x.rank(8, EIGHT_RISING), -11);
        says("-2: it isn't in it", x.rank(5, 1), -2, x.rank(5, EIGHT_RISING), -2, x.rank(6, 12), -2,
                x.rank(0, 231), -2, x.rank(0, 23456781), -2);
        for (int place : OUTSIDE_PLACES) {
            says("-1", x.rank(place, 1), -1);
        }
    }

    private void following() {
        heading("Promise 24: next");
        classesOfAllKinds();
        says("The ORDER of n that follows", x.next(4, 12), 21, x.next(4, EIGHT_RISING), 12345687,
                x.next(4, 87654312), EIGHT_FALLING, x.next(7, EIGHT_RISING), 12345687);
        says("(which need not have that one)", x.next(0, 231), 312, x.next(0, 23456781), 31245678,
                x.next(2, 312), 321, x.next(3, 213), 231, x.next(3, 312), 321);
        says("-1 (of n above 8, too), -11", x.next(4, NINE_RISING), -1, x.next(8, NINE_RISING), -1,
                x.next(4, 11), -1, x.next(4, 1234567890), -1, x.next(8, 12), -11,
                x.next(8, 0), -11);
        says("-2: there is none", x.next(4, 0), -2, x.next(4, 1), -2, x.next(4, 21), -2,
                x.next(4, EIGHT_FALLING), -2, x.next(5, 12), -2, x.next(5, EIGHT_RISING), -2,
                x.next(6, 12), -2, x.next(1, 12), -2, x.next(0, 321), -2);
        for (int place : OUTSIDE_PLACES) {
            says("-1", x.next(place, 1), -1);
        }
    }

    private void outerOnes() {
        heading("Promise 25: outer");
        free(0, 1);
        free(1, 654321);
        free(2, 7654321);
        free(3, 123456, 654321, 21, 321);
        says("of n 1 .. 6", x.outer(0, 0), 1, x.outer(0, 1), -2, x.outer(1, 0), 654321,
                x.outer(1, 1), -2, x.outer(2, 0), -2, x.outer(3, 0), 21, x.outer(3, 1), 123456,
                x.outer(3, 2), -2);
        free(4, 123, 132, 213, 231, 312, 321);
        says("ORDER i, from 0", x.outer(4, 0), 123, x.outer(4, 5), 321, x.outer(4, 6), -2,
                x.outer(4, GREATEST), -2, x.outer(4, -1), -1, x.outer(4, LEAST), -1);
        says("-1, -11", x.outer(5, 0), -11, x.outer(5, -1), -1, x.outer(11, 0), -11);
        x.make(6, 3, 1);
        x.make(7, 2, 2);
        x.make(8, 3, 80);
        says("-2: there are not so many", x.outer(6, 0), 21, x.outer(6, 1), -2, x.outer(7, 0), -2,
                x.outer(8, 0), 12345);
        for (int place : OUTSIDE_PLACES) {
            says("-1", x.outer(place, 0), -1);
        }
    }

    private void kidsCounted() {
        heading("Promise 26: kids");
        classesOfAllKinds();
        says("an ORDER of n (0 .. 7)", x.kids(4, 0), 1, x.kids(4, 1), 2, x.kids(4, 1234567), 8,
                x.kids(4, 7654321), 8, x.kids(4, EIGHT_RISING), -1, x.kids(4, NINE_RISING), -1,
                x.kids(4, 1234567890), -1, x.kids(4, 11), -1, x.kids(8, EIGHT_RISING), -1);
        says("How many a CLASS has", x.kids(5, 0), 0, x.kids(5, 1), 0, x.kids(6, 0), 1,
                x.kids(6, 1), 0, x.kids(0, 231), 0, x.kids(0, 7654321), 2, x.kids(0, 1234567), 8,
                x.kids(1, 1234567), 1, x.kids(3, 1234567), 2, x.kids(2, 7654321), 8);
        says("-11", x.kids(8, 0), -11, x.kids(11, 1234567), -11);
        for (int place : OUTSIDE_PLACES) {
            says("-1", x.kids(place, 1), -1);
        }
    }

    private void sameOrders() {
        heading("Promise 27: same");
        free(0);
        free(1, 654321);
        free(2, 7654321);
        free(3, 1);
        free(4, 1, 12);
        free(5, 12, 21);
        sums(6);
        x.make(7, 2, 2);
        x.make(8, 3, 1);
        free(9, 21);
        says("the same ORDERS of n 0 .. 6: 1, else 0", x.same(0, 0), 1, x.same(0, 1), 0,
                x.same(1, 0), 0, x.same(0, 2), 1, x.same(2, 0), 1, x.same(3, 4), 1, x.same(3, 5), 0,
                x.same(0, 3), 0, x.same(0, 6), 1, x.same(0, 7), 1, x.same(8, 9), 1, x.same(9, 7), 0,
                x.same(1, 1), 1);
        // Whatever has been counted before, of longer ones too.
        says("of n 0 .. 6", x.count(0, 8), 40320, x.same(0, 2), 1, x.same(2, 0), 1,
                x.count(7, 7), 5018, x.same(7, 0), 1, x.same(2, 7), 1, x.count(2, 8), 40270,
                x.same(0, 2), 1, x.same(7, 2), 1);
        says("-11: of either", x.same(0, 10), -11, x.same(10, 0), -11, x.same(10, 10), -11,
                x.same(10, 11), -11);
        for (int place : OUTSIDE_PLACES) {
            says("-1", x.same(place, 0), -1, x.same(0, place), -1, x.same(place, 10), -1,
                    x.same(10, place), -1, x.same(place, place), -1);
        }
    }

    private void likePatterns() {
        heading("Promise 28: like");
        free(0);
        sums(1);
        free(2, 2314, 1, 12, 132, 321, NINE_RISING);
        free(3, NINE_FALLING, 123, 312, 21, 1, 3241);
        free(4, 1342);
        free(5, 2314);
        free(6, 1, 12);
        says("The least TURN", x.like(0, 0), 0, x.like(0, 1), 0, x.like(2, 2), 0, x.like(4, 5), 7,
                x.like(5, 4), 7, x.like(2, 3), 2, x.like(3, 2), 2);
        says("-2: none does", x.like(0, 6), -2, x.like(6, 0), -2, x.like(4, 6), -2,
                x.like(4, 1), -2, x.like(2, 6), -2);
        x.make(7, 2, 1);
        x.make(8, 3, 1);
        says("-11, -12 (the first, then the other)", x.like(9, 0), -11, x.like(0, 9), -11,
                x.like(7, 0), -12, x.like(0, 7), -12, x.like(8, 0), -12, x.like(0, 8), -12,
                x.like(7, 9), -12, x.like(9, 7), -11, x.like(8, 9), -12, x.like(9, 8), -11,
                x.like(7, 8), -12, x.like(9, 9), -11);
        for (int place : OUTSIDE_PLACES) {
            says("-1", x.like(place, 0), -1, x.like(0, place), -1, x.like(place, 9), -1,
                    x.like(9, place), -1, x.like(place, 7), -1, x.like(7, place), -1);
        }
    }

    private void turnedOnes() {
        heading("Promise 29: turnedClass");
        free(0, 231);
        free(1);
        free(2, 1, 12, 123, 1234, 12345, NINE_RISING);
        sums(3, 231, 21);
        says("whose PATTERNS are those, TURNED", x.turnedClass(0, 0, 11), 1, x.look(11, 2), 231,
                x.turnedClass(0, 7, 11), 1, x.look(11, 2), 231, x.turnedClass(0, 4, 11), 1,
                x.look(11, 2), 312, x.turnedClass(0, -1, 10), -1, x.turnedClass(0, 8, 10), -1,
                x.turnedClass(0, LEAST, 10), -1, x.turnedClass(0, GREATEST, 10), -1,
                x.look(10, 0), -11);
        says("how many", x.turnedClass(1, 7, 10), 0, x.look(10, 0), 0, x.look(10, 1), 0,
                x.turnedClass(2, 1, 10), 6, x.look(10, 2), 1, x.look(10, 3), 21,
                x.look(10, 7), NINE_FALLING, x.add(10, 12), -2);
        says("a FREE one", x.turnedClass(3, 0, 9), 2, x.look(9, 0), 0, x.add(9, 12), 3,
                x.look(3, 0), 1, x.look(3, 1), 2, x.turnedClass(3, 0, 3), 2, x.look(3, 0), 0,
                x.add(3, 12), 3);
        x.make(4, 2, 1);
        x.make(5, 3, 1);
        says("-11, -12", x.turnedClass(6, 0, 7), -11, x.turnedClass(6, 0, 6), -11,
                x.turnedClass(4, 0, 7), -12, x.turnedClass(5, 0, 7), -12, x.look(7, 0), -11,
                x.turnedClass(6, 0, 0), -11, x.turnedClass(4, 0, 0), -12, x.look(0, 2), 231);
        for (int place : OUTSIDE_PLACES) {
            says("-1", x.turnedClass(place, 0, 0), -1, x.turnedClass(0, 0, place), -1);
        }
    }
}
