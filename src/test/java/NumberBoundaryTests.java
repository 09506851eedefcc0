/** Promises 30 to 35: the sentences that name a boundary case. */
final class NumberBoundaryTests extends Sentences {
    NumberBoundaryTests(Checks checks) {
        super(checks);
    }

    @Override
    void run() {
        meansOfPatterns();
        allOfClasses();
        greatestTimes();
        firstPacked();
        mergedRows();
        fewestRows();
    }

    private void meansOfPatterns() {
        heading("Promise 30: mean");
        says("a PATTERN (not empty) of k", x.mean(1, 1, 0), 1, x.mean(1, 1, 1), 1,
                x.mean(0, 0, 0), -1, x.mean(0, 1, 0), -1, x.mean(0, 9, 1), -1);
        says("all ORDERS of n (0 .. 9)", x.mean(1, 9, 0), 9, x.mean(1, 9, 1), 1,
                x.mean(1, 10, 0), -1, x.mean(1, -1, 0), -1, x.mean(1, LEAST, 0), -1,
                x.mean(1, GREATEST, 1), -1);
        says("k at most n", x.mean(21, 2, 0), 1, x.mean(21, 2, 1), 2, x.mean(21, 1, 0), -1,
                x.mean(1, 0, 0), -1, x.mean(NINE_RISING, 9, 0), 1,
                x.mean(NINE_RISING, 9, 1), 362880, x.mean(NINE_RISING, 8, 0), -1,
                x.mean(EIGHT_RISING, 9, 0), 1, x.mean(EIGHT_RISING, 9, 1), 4480,
                x.mean(EIGHT_RISING, 8, 1), 40320);
        says("which = 0 the upper, 1 the lower number", x.mean(321, 5, 0), 5, x.mean(321, 5, 1), 3,
                x.mean(321, 5, -1), -1, x.mean(321, 5, 2), -1, x.mean(321, 5, LEAST), -1,
                x.mean(321, 5, GREATEST), -1);
        says("in lowest terms", x.mean(1234, 9, 0), 21, x.mean(1234, 9, 1), 4, x.mean(12, 9, 0), 18,
                x.mean(12, 9, 1), 1, x.mean(123, 9, 0), 14, x.mean(123, 9, 1), 1);
        says("-1", x.mean(11, 5, 0), -1, x.mean(-1, 5, 0), -1, x.mean(1234567890, 9, 0), -1);
    }

    private void allOfClasses() {
        heading("Promise 31: all");
        classesOfAllKinds();
        says("all ORDERS of n (0 .. 7)", x.all(4, 0, 0), 1, x.all(4, 7, 0), 5040,
                x.all(4, 7, 1), 35280, x.all(4, 7, 21), 52920, x.all(4, 7, 7654321), 1,
                x.all(4, 7, EIGHT_RISING), 0, x.all(4, 8, 21), -1, x.all(4, -1, 21), -1,
                x.all(4, LEAST, 21), -1, x.all(4, GREATEST, 21), -1);
        says("a PATTERN (the empty one, and longer ones, too)", x.all(4, 0, 1), 0,
                x.all(4, 1, 1), 1, x.all(4, 3, NINE_RISING), 0, x.all(4, 3, 0), 6,
                x.all(0, 3, 0), 5);
        says("of a CLASS", x.all(5, 0, 0), 1, x.all(5, 1, 1), 0, x.all(5, 7, 0), 0,
                x.all(6, 1, 1), 1, x.all(6, 2, 1), 0, x.all(0, 7, 231), 0, x.all(1, 7, 12), 21,
                x.all(2, 3, 12), 8, x.all(3, 3, 21), 6, x.all(7, 7, 1), 35126);
        says("-1, -11", x.all(4, 3, 11), -1, x.all(4, 3, -1), -1, x.all(4, 3, 1234567890), -1,
                x.all(8, 3, 21), -11, x.all(8, 0, 0), -11, x.all(8, 8, 21), -1,
                x.all(8, 3, 11), -1);
        for (int place : OUTSIDE_PLACES) {
            says("-1", x.all(place, 1, 1), -1);
        }
    }

    private void greatestTimes() {
        heading("Promise 32: most");
        says("an ORDER of n (0 .. 7)", x.most(1, 0), 0, x.most(1, 1), 1, x.most(1, 7), 7,
                x.most(12, 7), 21, x.most(1, 8), -1, x.most(1, -1), -1, x.most(1, LEAST), -1,
                x.most(1, GREATEST), -1);
        says("The greatest number of times", x.most(0, 0), 1, x.most(0, 7), 1, x.most(12, 1), 0,
                x.most(7654321, 7), 1, x.most(7654321, 6), 0, x.most(EIGHT_RISING, 7), 0,
                x.most(NINE_RISING, 0), 0, x.most(123, 7), 35);
        says("-1", x.most(11, 3), -1, x.most(-1, 3), -1, x.most(1234567890, 3), -1);
    }

    private void firstPacked() {
        heading("Promise 33: packed");
        says("The first ORDER of n (0 .. 7)", x.packed(1, 0), 0, x.packed(1, 1), 1,
                x.packed(1, 7), 1234567, x.packed(21, 7), 7654321, x.packed(1, 8), -1,
                x.packed(1, -1), -1, x.packed(1, LEAST), -1, x.packed(1, GREATEST), -1);
        says("with most() of them", x.packed(0, 0), 0, x.packed(0, 7), 1234567, x.packed(21, 1), 1,
                x.packed(21, 2), 21, x.packed(321, 2), 12, x.packed(7654321, 7), 7654321,
                x.packed(7654321, 6), 123456, x.packed(NINE_FALLING, 3), 123,
                x.packed(132, 3), 132);
        says("-1", x.packed(11, 3), -1, x.packed(-1, 3), -1, x.packed(1234567890, 3), -1);
    }

    private void mergedRows() {
        heading("Promise 34: merges");
        says("sets of places for the first", x.merges(0, 0, 0), 1, x.merges(1, 1, 0), 1,
                x.merges(1, 0, 1), 1, x.merges(12, 1, 1), 2, x.merges(21, 0, 21), 1,
                x.merges(21, 12, 0), 0, x.merges(21, 0, 12), 0,
                x.merges(NINE_RISING, 1, EIGHT_RISING), 9,
                x.merges(NINE_RISING, EIGHT_RISING, 1), 9, x.merges(NINE_RISING, NINE_RISING, 0), 1,
                x.merges(NINE_FALLING, 0, NINE_FALLING), 1,
                x.merges(NINE_FALLING, 4321, 54321), 126, x.merges(NINE_FALLING, 1234, 54321), 0);
        says("-2: n isn't theirs together", x.merges(0, 0, 1), -2, x.merges(0, 1, 0), -2,
                x.merges(1, 0, 0), -2, x.merges(1, 1, 1), -2, x.merges(12, 1, 0), -2,
                x.merges(12, 1, 12), -2, x.merges(NINE_RISING, EIGHT_RISING, 0), -2,
                x.merges(NINE_RISING, EIGHT_RISING, 12), -2,
                x.merges(NINE_RISING, NINE_RISING, NINE_RISING), -2);
        says("-1", x.merges(11, 1, 1), -1, x.merges(12, 11, 1), -1, x.merges(12, 1, 11), -1,
                x.merges(1234567890, 0, 0), -1, x.merges(12, -1, 1), -1, x.merges(12, 1, 2), -1);
    }

    private void fewestRows() {
        heading("Promise 35: rows");
        says("The fewest rising rows", x.rows(0, false), 0, x.rows(1, false), 1,
                x.rows(12, false), 1, x.rows(21, false), 2, x.rows(NINE_RISING, false), 1,
                x.rows(NINE_FALLING, false), 9);
        says("(falling true: falling ones)", x.rows(0, true), 0, x.rows(1, true), 1,
                x.rows(12, true), 2, x.rows(21, true), 1, x.rows(NINE_RISING, true), 9,
                x.rows(NINE_FALLING, true), 1);
        says("-1", x.rows(11, false), -1, x.rows(11, true), -1, x.rows(-1, false), -1,
                x.rows(1234567890, true), -1);
    }
}
