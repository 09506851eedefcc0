/**
 * A form for tests of boundary cases, a sentence of the document each: the last value inside, the
 * first one outside on either side, the empty and the full case. What a refused call leaves as it
 * was, and which of several refusals comes first, is in RefusalTests.
 */
abstract class Sentences {
    static final int LEAST = Integer.MIN_VALUE;
    static final int GREATEST = Integer.MAX_VALUE;
    static final int NINE_RISING = 123456789;
    static final int NINE_FALLING = 987654321;
    static final int EIGHT_RISING = 12345678;
    static final int EIGHT_FALLING = 87654321;
    static final int NO_SHELF = -1001;
    static final int NO_ELEMENT = -1002;
    static final int[] OUTSIDE_PLACES = {LEAST, -1, 12, GREATEST};
    static final int[] OUTSIDE_SHELVES = {LEAST, -1, 6, GREATEST};

    private final Checks checks;
    private String heading = "";
    OrderPatterns x = new OrderPatterns();

    Sentences(Checks checks) {
        this.checks = checks;
    }

    abstract void run();

    /** Each promise begins with a new object. */
    void heading(String text) {
        heading = text;
        x = new OrderPatterns();
    }

    /** A sentence of the document, and pairs of an answer and what is due. */
    void says(String sentence, long... pairs) {
        for (int i = 0; i < pairs.length; i += 2) {
            checks.due(heading + ", \"" + sentence + "\", pair " + i / 2, pairs[i], pairs[i + 1]);
        }
    }

    void free(int place, int... patterns) {
        says("(made)", x.make(place, 0, 0), 0);
        for (int i = 0; i < patterns.length; i++) {
            says("(made)", x.add(place, patterns[i]), i + 1);
        }
    }

    void sums(int place, int... patterns) {
        says("(made)", x.make(place, 1, 0), 0);
        for (int i = 0; i < patterns.length; i++) {
            says("(made)", x.add(place, patterns[i]), i + 1);
        }
    }

    /** Places 0 .. 7: a CLASS of each KIND; one has all ORDERS, two next to none. */
    void classesOfAllKinds() {
        free(0, 231);
        sums(1, 321, 21);
        x.make(2, 2, 1);
        x.make(3, 3, 7);
        free(4);
        free(5, 1);
        free(6, 12, 21);
        x.make(7, 2, 2);
    }

    long element(int d, int i) {
        try {
            return x.element(d, i);
        } catch (IllegalArgumentException noShelf) {
            return NO_SHELF;
        } catch (IllegalStateException noElement) {
            return NO_ELEMENT;
        }
    }

    void rowIs(String sentence, int d, int... due) {
        for (int i = 0; i < due.length; i++) {
            says(sentence, element(d, i), due[i]);
        }
        says(sentence, element(d, -1), NO_ELEMENT, element(d, due.length), NO_ELEMENT);
    }
}
