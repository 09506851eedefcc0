/** Promises 1 to 15: the sentences that name a boundary case. */
final class OrderBoundaryTests extends Sentences {
    OrderBoundaryTests(Checks checks) {
        super(checks);
    }

    @Override
    void run() {
        newObject();
        lengths();
        holding();
        firstPlaces();
        timesHeld();
        turning();
        leastTurns();
        addedUp();
        putIn();
        takenOut();
        spansCounted();
        partsTold();
        simpleCounted();
        shapeLengths();
        alikeCounted();
    }

    private void newObject() {
        heading("Promise 1: A new object");
        for (int place = 0; place < 12; place++) {
            says("No CLASSES", x.look(place, 0), -11, x.in(place, 0), -11, x.count(place, 0), -11,
                    x.thin(place), -11, x.keep(0, 1, place, 0), -11, x.keep(0, 4, place, 0), -11);
        }
        x.make(0, 0, 0);
        heading("Promise 1: A new object");
        says("No CLASSES, whatever another object has", x.look(0, 0), -11);
    }

    private void lengths() {
        heading("Promise 2: length");
        int[] rising = {0, 1, 12, 123, 1234, 12345, 123456, 1234567, EIGHT_RISING, NINE_RISING};
        for (int n = 0; n <= 9; n++) {
            says("n of an ORDER", x.length(rising[n]), n,
                    x.length(rising[n] * 10), n == 0 ? 0 : -1);
        }
        says("-1", x.length(-1), -1, x.length(-12), -1, x.length(LEAST), -1, x.length(GREATEST), -1,
                x.length(1000000000), -1, x.length(2123456789), -1, x.length(1987654321), -1);
    }

    private void holding() {
        heading("Promise 3: holds");
        says("Whether one HOLDS another", x.holds(0, 0), 1, x.holds(NINE_RISING, EIGHT_RISING), 1,
                x.holds(NINE_RISING, EIGHT_FALLING), 0, x.holds(0, NINE_RISING), 0);
        says("-1", x.holds(11, 0), -1, x.holds(0, 11), -1, x.holds(-1, -1), -1,
                x.holds(12, 1234567890), -1, x.holds(1234567890, 12), -1, x.holds(12, 2), -1,
                x.holds(10, 1), -1);
    }

    private void firstPlaces() {
        heading("Promise 4: where");
        says("The first places, as bits", x.where(0, 0), 0, x.where(NINE_RISING, 0), 0,
                x.where(1, 1), 1, x.where(NINE_RISING, NINE_RISING), 511,
                x.where(NINE_RISING, 1), 1, x.where(987654312, 12), 384, x.where(213456789, 21), 3,
                x.where(198765432, 12), 3, x.where(NINE_FALLING, EIGHT_FALLING), 255);
        says("(compared one by one from the first)", x.where(2314, 12), 3, x.where(3124, 12), 9,
                x.where(4123, 12), 6);
        says("-2: none", x.where(0, 1), -2, x.where(NINE_FALLING, 12), -2, x.where(12, 123), -2,
                x.where(EIGHT_RISING, NINE_RISING), -2);
        says("-1", x.where(11, 0), -1, x.where(0, 11), -1, x.where(-1, 0), -1,
                x.where(1, 1234567890), -1);
    }

    private void timesHeld() {
        heading("Promise 5: times");
        says("At how many sets of places", x.times(0, 0), 1, x.times(0, 1), 0, x.times(1, 0), 1,
                x.times(1, 1), 1, x.times(NINE_RISING, 1), 9, x.times(NINE_RISING, 12), 36,
                x.times(NINE_RISING, 21), 0, x.times(NINE_FALLING, 54321), 126,
                x.times(NINE_RISING, EIGHT_RISING), 9, x.times(NINE_RISING, NINE_RISING), 1);
        says("-1", x.times(11, 0), -1, x.times(0, 11), -1, x.times(GREATEST, 1), -1,
                x.times(1, LEAST), -1);
    }

    private void turning() {
        heading("Promise 6: turned");
        says("An ORDER TURNED", x.turned(231, 0), 231, x.turned(231, 7), 231,
                x.turned(214365879, 4), 214365879, x.turned(214365879, 7), 132547698);
        says("-1", x.turned(231, -1), -1, x.turned(231, 8), -1, x.turned(231, LEAST), -1,
                x.turned(231, GREATEST), -1, x.turned(11, 0), -1, x.turned(1234567890, 7), -1);
    }

    private void leastTurns() {
        heading("Promise 7: least");
        says("The least of eight", x.least(0), 0, x.least(1), 1, x.least(21), 12,
                x.least(NINE_FALLING), NINE_RISING, x.least(NINE_RISING), NINE_RISING,
                x.least(312), 132, x.least(3142), 2413, x.least(912345678), 198765432);
        for (int turned : new int[] {1342, 2431, 4213, 3124, 1423, 4132, 3241, 2314}) {
            says("The least of eight", x.least(turned), 1342);
        }
        says("-1", x.least(-1), -1, x.least(10), -1, x.least(1234567890), -1);
    }

    private void addedUp() {
        heading("Promise 8: sum");
        says("SUM, or SKEW, of two", x.sum(0, 0, false), 0, x.sum(1, 0, true), 1,
                x.sum(0, 1, true), 1, x.sum(1, 1, false), 12, x.sum(1, 1, true), 21,
                x.sum(EIGHT_FALLING, 1, false), 876543219, x.sum(EIGHT_RISING, 1, true), 234567891,
                x.sum(1, EIGHT_FALLING, false), 198765432, x.sum(1, EIGHT_RISING, true), 912345678,
                x.sum(0, NINE_FALLING, true), NINE_FALLING,
                x.sum(NINE_RISING, 0, false), NINE_RISING);
        for (int skew = 0; skew < 2; skew++) {
            says("-2: of more than 9", x.sum(EIGHT_RISING, 12, skew == 1), -2,
                    x.sum(NINE_RISING, 1, skew == 1), -2, x.sum(1, NINE_RISING, skew == 1), -2,
                    x.sum(12345, 12345, skew == 1), -2,
                    x.sum(NINE_RISING, NINE_RISING, skew == 1), -2);
            says("-1", x.sum(11, 1, skew == 1), -1, x.sum(1, 11, skew == 1), -1,
                    x.sum(-1, 0, skew == 1), -1, x.sum(0, 1234567890, skew == 1), -1);
        }
    }

    private void putIn() {
        heading("Promise 9: put");
        says("place i (from 0)", x.put(21, 0, 12), 231, x.put(21, 1, 12), 312,
                x.put(21, -1, 12), -1, x.put(21, 2, 12), -1, x.put(NINE_RISING, 8, 1), NINE_RISING,
                x.put(NINE_RISING, 9, 1), -1, x.put(21, GREATEST, 1), -1, x.put(21, LEAST, 1), -1,
                x.put(0, 0, 1), -1, x.put(0, -1, 1), -1);
        says("another one, not empty", x.put(21, 0, 1), 21, x.put(21, 0, 0), -1, x.put(1, 0, 0), -1,
                x.put(NINE_RISING, 0, 0), -1);
        says("-2: of more than 9", x.put(1, 0, NINE_FALLING), NINE_FALLING,
                x.put(12, 0, EIGHT_FALLING), 876543219, x.put(12, 1, EIGHT_FALLING), 198765432,
                x.put(12, 0, NINE_RISING), -2, x.put(21, 1, NINE_RISING), -2,
                x.put(EIGHT_RISING, 7, 21), 123456798, x.put(EIGHT_RISING, 7, 321), -2,
                x.put(NINE_RISING, 0, 12), -2);
    }

    private void takenOut() {
        heading("Promise 10: without");
        says("place i", x.without(1, 0), 0, x.without(12, 0), 1, x.without(12, 1), 1,
                x.without(231, 0), 21, x.without(231, 2), 12,
                x.without(NINE_RISING, 0), EIGHT_RISING, x.without(NINE_FALLING, 8), EIGHT_FALLING);
        says("-1", x.without(0, 0), -1, x.without(1, 1), -1, x.without(1, -1), -1,
                x.without(NINE_RISING, 9), -1, x.without(12, LEAST), -1,
                x.without(12, GREATEST), -1, x.without(11, 0), -1);
    }

    private void spansCounted() {
        heading("Promise 11: spans");
        says("How many SPANS", x.spans(0), 0, x.spans(1), 0, x.spans(21), 0, x.spans(321), 2,
                x.spans(NINE_FALLING), 35, x.spans(246813579), 1, x.spans(468135792), 0);
        says("-1", x.spans(-1), -1, x.spans(10), -1, x.spans(1234567890), -1);
    }

    private void partsTold() {
        heading("Promise 12: parts");
        says("0 the KIND (0 of n below 2)", x.parts(0, 0), 0, x.parts(1, 0), 0, x.parts(12, 0), 1,
                x.parts(21, 0), 2);
        says("1 how many (0 of n below 2)", x.parts(0, 1), 0, x.parts(1, 1), 0, x.parts(12, 1), 2,
                x.parts(21, 1), 2, x.parts(NINE_RISING, 1), 9, x.parts(NINE_FALLING, 1), 9,
                x.parts(468135792, 1), 9);
        says("2 the SIMPLE one of KIND 3 (else 0)", x.parts(0, 2), 0, x.parts(1, 2), 0,
                x.parts(12, 2), 0, x.parts(21, 2), 0, x.parts(2413, 2), 2413,
                x.parts(468135792, 2), 468135792);
        says("3 + i PART i (i 0 .. 8)", x.parts(12, 3), 1, x.parts(12, 4), 1,
                x.parts(NINE_RISING, 3), 1, x.parts(NINE_RISING, 11), 1, x.parts(468135792, 11), 1,
                x.parts(NINE_RISING, 12), -1, x.parts(NINE_RISING, GREATEST), -1,
                x.parts(198765432, 3), 1, x.parts(198765432, 4), EIGHT_FALLING);
        says("-2: there is no such PART", x.parts(0, 3), -2, x.parts(0, 11), -2, x.parts(1, 3), -2,
                x.parts(1, 11), -2, x.parts(12, 5), -2, x.parts(12, 11), -2,
                x.parts(EIGHT_RISING, 11), -2, x.parts(2413, 7), -2, x.parts(2413, 6), 1);
        says("-1", x.parts(12, -1), -1, x.parts(12, LEAST), -1, x.parts(12, 12), -1,
                x.parts(0, 12), -1, x.parts(11, 0), -1, x.parts(11, 3), -1);
    }

    private void simpleCounted() {
        heading("Promise 13: simple");
        says("of n (0 .. 8)", x.simple(0), 0, x.simple(8), 2926, x.simple(-1), -1, x.simple(9), -1,
                x.simple(LEAST), -1, x.simple(GREATEST), -1);
        says("are SIMPLE", x.simple(1), 0, x.simple(2), 2, x.simple(3), 0, x.simple(7), 338,
                x.simple(8), 2926);
    }

    private void shapeLengths() {
        heading("Promise 14: shape");
        says("length i, from 0", x.shape(NINE_RISING, 0), 9, x.shape(NINE_FALLING, 0), 1,
                x.shape(NINE_FALLING, 8), 1, x.shape(12, -1), -1, x.shape(0, -1), -1,
                x.shape(12, LEAST), -1);
        says("(0: there is none)", x.shape(0, 0), 0, x.shape(1, 1), 0, x.shape(NINE_RISING, 1), 0,
                x.shape(NINE_FALLING, 9), 0, x.shape(NINE_FALLING, GREATEST), 0,
                x.shape(0, GREATEST), 0);
        says("-1", x.shape(11, 0), -1, x.shape(1234567890, 0), -1, x.shape(-1, 0), -1);
    }

    private void alikeCounted() {
        heading("Promise 15: alike");
        says("of n (0 .. 8)", x.alike(0), 1, x.alike(1), 1, x.alike(EIGHT_RISING), 1,
                x.alike(EIGHT_FALLING), 1, x.alike(21436587), 196, x.alike(87561234), 8100);
        says("-1 (n of more than 8, too)", x.alike(NINE_RISING), -1, x.alike(NINE_FALLING), -1,
                x.alike(1234567890), -1, x.alike(-1), -1, x.alike(11), -1);
    }
}
