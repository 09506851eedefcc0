/** Promises 36 to 42: the sentences that name a boundary case. */
final class ShelfBoundaryTests extends Sentences {
    ShelfBoundaryTests(Checks checks) {
        super(checks);
    }

    @Override
    void run() {
        keeping();
        makingRows();
        readingElements();
        copying();
        copyingBeyond();
        reading();
        weighing();
        tossing();
    }

    private void keeping() {
        heading("Promise 36: keep");
        free(0, 321);
        free(11, 1);
        for (int d = 0; d < 6; d++) {
            says("SHELF d gets", x.keep(d, 1, 0, 0), 0, x.weight(d), 11);
        }
        for (int d : OUTSIDE_SHELVES) {
            says("-1", x.keep(d, 0, 0, 0), -1, x.keep(d, 1, 0, 0), -1, x.keep(d, 3, 0, 1), -1,
                    x.keep(d, 4, 0, 0), -1);
        }
        says("what = 0 nothing", x.keep(0, 0, 0, 0), 0, x.weight(0), -11, x.keep(0, 0, 0, 0), 0,
                x.weight(0), -11, x.keep(5, 0, 0, 0), 0, x.toss(5), -11);
        says("1 the CLASS at a PLACE", x.keep(0, 1, 11, 0), 0, x.weight(0), 11,
                x.keep(0, 1, 1, 0), -11, x.keep(0, 1, -1, 0), -1, x.keep(0, 1, 12, 0), -1,
                x.weight(0), 11);
        says("3 the numbers of an ORDER k", x.keep(1, 3, 0, 0), 0, x.read(1), 0,
                x.keep(2, 3, 0, NINE_FALLING), 0, x.read(2), NINE_FALLING,
                x.keep(2, 3, 0, 1234567890), -1, x.keep(2, 3, 0, 11), -1, x.keep(2, 3, 0, -1), -1,
                x.read(2), NINE_FALLING);
        rowIs("3 the numbers of an ORDER k", 1);
        rowIs("3 the numbers of an ORDER k", 2, 9, 8, 7, 6, 5, 4, 3, 2, 1);
        says("4 how many ORDERS of n 0 .. 6", x.keep(3, 4, 0, 0), 0, x.keep(4, 4, 11, 0), 0,
                x.keep(4, 4, 1, 0), -11, x.keep(4, 4, 12, 0), -1);
        rowIs("4 how many ORDERS of n 0 .. 6", 3, 1, 1, 2, 5, 14, 42, 132);
        rowIs("4 how many ORDERS of n 0 .. 6", 4, 1, 0, 0, 0, 0, 0, 0);
        free(2);
        x.keep(3, 4, 2, 0);
        rowIs("4 how many ORDERS of n 0 .. 6", 3, 1, 1, 2, 6, 24, 120, 720);
        for (int what : new int[] {LEAST, -1, 2, 5, GREATEST}) {
            says("what 0, 1, 3, 4", x.keep(2, what, 0, 1), -1, x.keep(2, what, 5, 1), -1,
                    x.read(2), NINE_FALLING);
        }
    }

    private void makingRows() {
        heading("Promise 37: row");
        says("n up to 60", x.row(0, 3, 60), 0, element(0, 59), 0, element(0, 60), NO_ELEMENT,
                x.row(5, 4, 60), 0, element(5, 59), 0, element(5, 60), NO_ELEMENT,
                x.row(0, 3, 61), -1, x.row(5, 4, 61), -1, x.row(0, 3, GREATEST), -1,
                element(0, 59), 0, element(5, 59), 0);
        says("a ROW of n", x.row(1, 3, 0), 0, x.read(1), 0, x.row(1, 3, 1), 0, x.read(1), 1,
                x.row(1, 4, 0), 0, x.read(1), -12, x.row(1, 4, 1), 0, element(1, 0), 0,
                element(1, 1), NO_ELEMENT);
        says("(what 3, 4)", x.row(1, 2, 1), -1, x.row(1, 5, 1), -1, x.row(1, 0, 1), -1,
                x.row(1, 1, 1), -1, x.row(1, -1, 1), -1, x.row(1, GREATEST, 1), -1,
                x.row(1, LEAST, 1), -1);
        says("-14: n is below 0", x.row(1, 3, -1), -14, x.row(1, 4, -1), -14,
                x.row(1, 3, LEAST), -14, x.row(1, 2, -1), -1, x.row(1, 5, LEAST), -1,
                x.row(6, 3, -1), -1, x.row(-1, 4, -1), -1);
        for (int d : OUTSIDE_SHELVES) {
            says("-1", x.row(d, 3, 1), -1, x.row(d, 4, -1), -1, x.row(d, 3, 61), -1);
        }
        x.keep(2, 3, 0, 4321);
        says("0: the numbers that were there are gone", x.row(2, 3, 4), 0);
        rowIs("0", 2, 0, 0, 0, 0);
    }

    private void readingElements() {
        heading("Promise 38: element");
        free(0, 21);
        x.keep(0, 3, 0, NINE_FALLING);
        x.keep(1, 4, 0, 0);
        x.keep(2, 1, 0, 0);
        x.row(3, 3, 0);
        x.row(5, 4, 60);
        says("Element i, from 0", element(0, 0), 9, element(0, 8), 1, element(1, 0), 1,
                element(1, 6), 1, element(5, 0), 0, element(5, 59), 0);
        for (int d : OUTSIDE_SHELVES) {
            says("IllegalArgumentException: no such SHELF", element(d, 0), NO_SHELF,
                    element(d, -1), NO_SHELF, element(d, GREATEST), NO_SHELF);
        }
        says("IllegalStateException: nothing is held", element(4, 0), NO_ELEMENT,
                element(4, -1), NO_ELEMENT);
        says("it is no ROW", element(2, 0), NO_ELEMENT, element(2, -1), NO_ELEMENT);
        says("has no such place", element(0, -1), NO_ELEMENT, element(0, 9), NO_ELEMENT,
                element(1, 7), NO_ELEMENT, element(3, 0), NO_ELEMENT, element(3, -1), NO_ELEMENT,
                element(5, 60), NO_ELEMENT, element(0, LEAST), NO_ELEMENT,
                element(0, GREATEST), NO_ELEMENT);
    }

    private void copying() {
        heading("Promise 39: copy");
        x.keep(0, 3, 0, 12345);
        x.row(1, 3, 3);
        says("n elements, from place i, from place j: n", x.copy(0, 0, 1, 0, 0), 0,
                x.copy(0, 0, 1, 0, 1), 1, x.copy(0, 4, 1, 2, 1), 1);
        rowIs("n elements, from place i, from place j: n", 1, 1, 0, 5);
        says("n elements, from place i, from place j: n", x.copy(0, 0, 0, 0, 5), 5,
                x.copy(0, 2, 1, 0, 3), 3);
        rowIs("n elements, from place i, from place j: n", 0, 1, 2, 3, 4, 5);
        rowIs("n elements, from place i, from place j: n", 1, 3, 4, 5);
        says("(as they all were before)", x.copy(0, 0, 0, 1, 4), 4);
        rowIs("(as they all were before)", 0, 1, 1, 2, 3, 4);
        says("(as they all were before)", x.copy(0, 1, 0, 0, 4), 4);
        rowIs("(as they all were before)", 0, 1, 2, 3, 4, 4);
        says("ROWS of ints", x.row(2, 4, 60), 0, x.row(3, 4, 60), 0, x.copy(2, 0, 3, 0, 60), 60,
                x.copy(2, 0, 3, 0, 61), -13, x.copy(2, 60, 3, 60, 0), 0,
                x.copy(2, 61, 3, 0, 0), -13);
        free(0);
        x.keep(4, 1, 0, 0);
        says("-11: of either", x.copy(5, 0, 0, 0, 1), -11, x.copy(0, 0, 5, 0, 1), -11,
                x.copy(5, 0, 5, 0, 0), -11, x.copy(4, 0, 5, 0, 0), -11, x.copy(5, 0, 4, 0, 0), -11,
                x.copy(2, 0, 5, 0, -1), -11);
        says("-12: one is no ROW", x.copy(4, 0, 0, 0, 1), -12, x.copy(0, 0, 4, 0, 1), -12,
                x.copy(4, 0, 4, 0, 0), -12, x.copy(4, 0, 0, 0, -1), -12);
        says("-12: or they are not of one kind", x.copy(0, 0, 2, 0, 1), -12,
                x.copy(2, 0, 0, 0, 0), -12, x.copy(0, -1, 2, 0, 1), -12);
        for (int d : OUTSIDE_SHELVES) {
            says("-1", x.copy(d, 0, 0, 0, 1), -1, x.copy(0, 0, d, 0, 1), -1,
                    x.copy(d, 0, d, 0, 1), -1, x.copy(d, 0, 5, 0, 1), -1, x.copy(5, 0, d, 0, 1), -1,
                    x.copy(d, -1, 4, 0, 1), -1);
        }
    }

    private void copyingBeyond() {
        heading("Promise 39: copy");
        x.keep(0, 3, 0, 12345);
        x.row(1, 3, 3);
        x.row(2, 3, 0);
        says("-13: n, i or j is below 0", x.copy(0, 0, 1, 0, -1), -13, x.copy(0, -1, 1, 0, 0), -13,
                x.copy(0, -1, 1, 0, 1), -13, x.copy(0, 0, 1, -1, 0), -13,
                x.copy(0, 0, 1, -1, 1), -13, x.copy(0, LEAST, 1, 0, 1), -13,
                x.copy(0, 0, 1, LEAST, 1), -13, x.copy(0, 0, 1, 0, LEAST), -13,
                x.copy(0, -1, 1, -1, -1), -13, x.copy(2, 0, 2, 0, -1), -13,
                x.copy(0, 1, 1, 1, -1), -13);
        says("or beyond either's end", x.copy(0, 5, 1, 3, 0), 0, x.copy(0, 6, 1, 0, 0), -13,
                x.copy(0, 0, 1, 4, 0), -13, x.copy(0, 4, 1, 0, 1), 1, x.copy(0, 5, 1, 0, 1), -13,
                x.copy(0, 4, 1, 0, 2), -13, x.copy(0, 0, 1, 2, 1), 1, x.copy(0, 0, 1, 3, 1), -13,
                x.copy(0, 0, 1, 2, 2), -13, x.copy(0, 0, 1, 0, 4), -13, x.copy(1, 0, 0, 0, 4), -13,
                x.copy(2, 0, 0, 5, 0), 0, x.copy(2, 0, 0, 0, 1), -13, x.copy(0, 0, 2, 0, 1), -13,
                x.copy(0, 0, 2, 1, 0), -13, x.copy(0, GREATEST, 1, 0, 1), -13,
                x.copy(0, 0, 1, GREATEST, 1), -13, x.copy(0, 0, 1, 0, GREATEST), -13,
                x.copy(0, 1, 1, 1, GREATEST), -13, x.copy(0, GREATEST, 1, GREATEST, GREATEST), -13);
        rowIs("-13: nothing comes", 1, 5, 0, 1);
        rowIs("-13: nothing comes", 0, 1, 2, 3, 4, 5);
        rowIs("-13: nothing comes", 2);
    }

    private void reading() {
        heading("Promise 40: read");
        x.keep(0, 3, 0, NINE_FALLING);
        says("The ORDER as which the numbers stand", x.read(0), NINE_FALLING, x.row(1, 3, 0), 0,
                x.read(1), 0, x.row(1, 3, 1), 0, x.read(1), 1, x.row(1, 3, 3), 0,
                x.copy(0, 0, 1, 0, 1), 1, x.copy(0, 4, 1, 2, 1), 1, x.read(1), 312);
        says("(9 at most, no two alike)", x.row(1, 3, 9), 0, x.copy(0, 0, 1, 0, 8), 8,
                x.read(1), NINE_FALLING, x.copy(0, 0, 1, 8, 1), 1, x.read(1), -2,
                x.copy(0, 8, 1, 8, 1), 1, x.read(1), NINE_FALLING);
        says("-13: more than 9", x.row(1, 3, 10), 0, x.copy(0, 0, 1, 0, 9), 9, x.read(1), -13,
                x.row(1, 3, 10), 0, x.read(1), -13, x.row(1, 3, 60), 0, x.read(1), -13);
        says("-2: two are alike", x.row(1, 3, 2), 0, x.read(1), -2, x.row(1, 3, 9), 0,
                x.read(1), -2, x.copy(0, 1, 1, 1, 8), 8, x.read(1), 198765432,
                x.copy(0, 8, 1, 0, 1), 1, x.read(1), -2);
        free(0);
        x.keep(2, 4, 0, 0);
        x.keep(3, 1, 0, 0);
        x.row(4, 4, 0);
        says("-11, -12", x.read(5), -11, x.read(2), -12, x.read(3), -12, x.read(4), -12,
                x.row(4, 4, 10), 0, x.read(4), -12, x.keep(4, 0, 0, 0), 0, x.read(4), -11);
        for (int d : OUTSIDE_SHELVES) {
            says("-1", x.read(d), -1);
        }
    }

    private int weightOf(int place) {
        says("(kept)", x.keep(0, 1, place, 0), 0);
        return x.weight(0);
    }

    private void weighing() {
        heading("Promise 41: weight");
        free(0);
        free(1, 1);
        free(2, 1, 12, 21, 123, 132, NINE_RISING);
        says("10 and its PATTERNS", weightOf(0), 10, weightOf(1), 11, weightOf(2), 16);
        sums(3);
        sums(4, 1);
        sums(5, 1, 21, 321, 4321, 54321, NINE_FALLING);
        says("of SUMS twice that of FREE", weightOf(3), 20, weightOf(4), 22, weightOf(5), 32);
        x.make(6, 2, 1);
        x.make(7, 2, 2);
        says("of STACKED ones 100 and its stacks", weightOf(6), 101, weightOf(7), 102);
        for (int told = 0; told < 4; told++) {
            x.make(8, 3, new int[] {1, 8, 13, 80}[told]);
            says("of GRIDS 1000 more", weightOf(8), 1101 + told);
        }
        x.row(1, 3, 5);
        x.row(2, 4, 5);
        says("-11, -12", x.weight(1), -12, x.weight(2), -12, x.weight(3), -11,
                x.keep(0, 0, 0, 0), 0, x.weight(0), -11);
        for (int d : OUTSIDE_SHELVES) {
            says("-1", x.weight(d), -1);
        }
    }

    private int tossOf(int kind, int told) {
        says("(kept)", x.make(0, kind, told), 0, x.keep(0, 1, 0, 0), 0);
        return x.toss(0);
    }

    private void tossing() {
        heading("Promise 42: toss");
        says("how many stacks, CELLS", tossOf(2, 1), 1, tossOf(2, 2), 2, tossOf(3, 1), 1,
                tossOf(3, 2), 1, tossOf(3, 4), 2, tossOf(3, 26), 3, tossOf(3, 40), 4,
                tossOf(3, 80), 4, x.toss(0), 4);
        says("-15: others have none", tossOf(0, 0), -15, tossOf(1, 0), -15, x.toss(0), -15);
        x.row(1, 3, 5);
        x.row(2, 4, 5);
        says("-11, -12", x.toss(1), -12, x.toss(2), -12, x.toss(3), -11, x.keep(0, 0, 0, 0), 0,
                x.toss(0), -11);
        for (int d : OUTSIDE_SHELVES) {
            says("-1", x.toss(d), -1);
        }
    }
}
