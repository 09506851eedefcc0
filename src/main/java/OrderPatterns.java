import java.util.Arrays;

/**
 * A bench for orders of numbers and the patterns in them. What each call promises stands in
 * DOC.md; words in capitals (ORDER, CLASS, SHAPE ..) are that document's terms.
 *
 * <p>Rows of numbers are made here once and loaded again for each call, since all calls of a run
 * share one small room.
 */
public final class OrderPatterns {

    private static final int LONGEST = 9;
    private static final int COUNTED = 8;
    private static final int MERELY_WALKED = 7;
    private static final int COMPARED = 6;
    private static final int TURNS = 8;
    private static final int PLACES = 12;
    private static final int MOST_PATTERNS = 6;
    private static final int MOST_STACKS = 2;
    private static final int MOST_CELLS = 4;
    private static final int SHELVES = 6;
    private static final int MOST_ELEMENTS = 60;

    private static final int BACKWARD = 1;
    private static final int UPSIDE_DOWN = 2;
    private static final int EXCHANGED = 4;

    private static final int FREE = 0;
    private static final int SUMS = 1;
    private static final int STACKED = 2;
    private static final int GRID = 3;

    private static final int KEEP_NOTHING = 0;
    private static final int KEEP_CLASS = 1;
    private static final int BYTES = 3;
    private static final int INTS = 4;

    private static final int NO_SUCH = -1;
    private static final int NONE = -2;
    private static final int UNFIT = -3;
    private static final int NOTHING_HELD = -11;
    private static final int OTHER_KIND = -12;
    private static final int NO_PLACE = -13;
    private static final int BELOW_ZERO = -14;
    private static final int NO_FAILURE = -15;

    private static final int[] FACTORIAL = {1, 1, 2, 6, 24, 120, 720, 5040, 40320, 362880};

    /** At n: how many ORDERS are shorter than n; there the bits of those of n begin in a Table. */
    private static final int[] START = {0, 1, 2, 4, 10, 34, 154, 874, 5914, 46234};

    private final Line one = new Line();
    private final Line two = new Line();
    private final Line three = new Line();
    private final Line walker = new Line();
    private final Line behind = new Line();
    private final Search search = new Search();
    private final Shape rising = new Shape();
    private final int[] partEnds = new int[LONGEST];
    private final int[] simpleOnes = new int[COUNTED + 1];

    private final Family[] families = new Family[PLACES];
    private final Stacked oneStack = new Stacked(1);
    private final Stacked twoStacks = new Stacked(2);
    /** One for each PLACE, then one for each number of stacks: STACKED CLASSES never change. */
    private final Table[] tables = new Table[PLACES + MOST_STACKS];
    private final Held[] shelves = new Held[SHELVES];

    public OrderPatterns() {
        for (int i = 0; i < tables.length; i++) {
            tables[i] = new Table();
        }
        Arrays.fill(simpleOnes, -1);
    }

    // ---- orders

    public int length(int order) {
        return sizeOf(order);
    }

    public int holds(int order, int pattern) {
        if (!one.load(order) || !search.aim(pattern)) {
            return NO_SUCH;
        }
        return search.first(one) >= 0 ? 1 : 0;
    }

    public int where(int order, int pattern) {
        if (!one.load(order) || !search.aim(pattern)) {
            return NO_SUCH;
        }
        int places = search.first(one);
        return places >= 0 ? places : NONE;
    }

    public int times(int order, int pattern) {
        if (!one.load(order) || !search.aim(pattern)) {
            return NO_SUCH;
        }
        return search.ways(one);
    }

    public int turned(int order, int turn) {
        if (sizeOf(order) < 0 || !isTurn(turn)) {
            return NO_SUCH;
        }
        return afterTurn(order, turn);
    }

    public int least(int order) {
        if (sizeOf(order) < 0) {
            return NO_SUCH;
        }
        int found = order;
        for (int turn = 1; turn < TURNS; turn++) {
            found = Math.min(found, afterTurn(order, turn));
        }
        return found;
    }

    public int sum(int order, int other, boolean skew) {
        if (!one.load(order) || !two.load(other)) {
            return NO_SUCH;
        }
        if (one.size() + two.size() > LONGEST) {
            return NONE;
        }
        three.empty();
        three.appendAll(one, skew ? two.size() : 0);
        three.appendAll(two, skew ? 0 : one.size());
        return three.told();
    }

    public int put(int order, int i, int other) {
        if (!one.load(order) || !two.load(other) || !one.hasPlace(i) || two.size() == 0) {
            return NO_SUCH;
        }
        if (one.size() - 1 + two.size() > LONGEST) {
            return NONE;
        }
        int number = one.num(i);
        three.empty();
        for (int p = 0; p < one.size(); p++) {
            if (p == i) {
                three.appendAll(two, number - 1);
            } else {
                int v = one.num(p);
                three.append(v > number ? v + two.size() - 1 : v);
            }
        }
        return three.told();
    }

    public int without(int order, int i) {
        if (!one.load(order) || !one.hasPlace(i)) {
            return NO_SUCH;
        }
        two.empty();
        for (int p = 0; p < one.size(); p++) {
            if (p != i) {
                two.append(one.num(p));
            }
        }
        return two.standing(0, two.size());
    }

    public int spans(int order) {
        return one.load(order) ? one.spansInside() : NO_SUCH;
    }

    public int parts(int order, int which) {
        if (!one.load(order) || which < 0 || which > 2 + LONGEST) {
            return NO_SUCH;
        }
        int kind = kindOfParts();
        int many = cutAs(kind);
        if (which == 0) {
            return kind;
        }
        if (which == 1) {
            return many;
        }
        if (which == 2) {
            return kind == 3 ? standingOfParts(many) : 0;
        }
        int i = which - 3;
        return i < many ? one.standing(startOfPart(i), at(partEnds, i)) : NONE;
    }

    public int simple(int n) {
        if (n < 0 || n > COUNTED) {
            return NO_SUCH;
        }
        if (at(simpleOnes, n) < 0) {
            set(simpleOnes, n, simpleOnesOf(n));
        }
        return at(simpleOnes, n);
    }

    public int shape(int order, int i) {
        if (!one.load(order) || i < 0) {
            return NO_SUCH;
        }
        rising.enterAll(one);
        return rising.width(i);
    }

    public int alike(int order) {
        if (!one.load(order) || one.size() > COUNTED) {
            return NO_SUCH;
        }
        rising.enterAll(one);
        // An ORDER is told by two fillings of its SHAPE, and hooks count the fillings.
        int fillings = quotient(at(FACTORIAL, one.size()), rising.hooks());
        return fillings * fillings;
    }

    // ---- classes

    public int make(int place, int kind, int told) {
        if (!isPlace(place)) {
            return NO_SUCH;
        }
        Family made = madeOf(kind, told);
        if (made == null) {
            return NO_SUCH;
        }
        settle(place, made);
        return 0;
    }

    public int add(int place, int pattern) {
        if (!isPlace(place) || !one.load(pattern) || one.size() == 0) {
            return NO_SUCH;
        }
        if (!(familyAt(place) instanceof Free free)) {
            return refusalAt(place);
        }
        if (free.isFull()) {
            return NONE;
        }
        if (free.names(pattern) || !free.accepts(one)) {
            return UNFIT;
        }
        free.take(pattern);
        forget(place);
        return free.told();
    }

    public int thin(int place) {
        if (!isPlace(place)) {
            return NO_SUCH;
        }
        if (!(familyAt(place) instanceof Free free)) {
            return refusalAt(place);
        }
        // The CLASS stays the same one, so that its Table still stands.
        free.dropHolders();
        return free.told();
    }

    public int look(int place, int what) {
        if (!isPlace(place) || what < 0) {
            return NO_SUCH;
        }
        Family family = familyAt(place);
        if (family == null) {
            return NOTHING_HELD;
        }
        if (what == 0) {
            return family.kind();
        }
        if (what == 1) {
            return family.told();
        }
        if (!(family instanceof Free free)) {
            return OTHER_KIND;
        }
        return what - 2 < free.told() ? free.pattern(what - 2) : NONE;
    }

    public int in(int place, int order) {
        if (!isPlace(place) || !one.load(order)) {
            return NO_SUCH;
        }
        Family family = familyAt(place);
        if (family == null) {
            return NOTHING_HELD;
        }
        return family.has(one) ? 1 : 0;
    }

    public int count(int place, int n) {
        if (!isPlace(place) || n < 0 || n > COUNTED) {
            return NO_SUCH;
        }
        Table table = filled(place, n);
        return table == null ? NOTHING_HELD : table.many(n);
    }

    public int ranked(int place, int n, int i) {
        if (!isPlace(place) || n < 0 || n > COUNTED || i < 0) {
            return NO_SUCH;
        }
        Table table = filled(place, n);
        if (table == null) {
            return NOTHING_HELD;
        }
        int ahead = 0;
        for (int r = 0; r < at(FACTORIAL, n); r++) {
            if (!table.has(n, r)) {
                continue;
            }
            if (ahead == i) {
                return orderOf(n, r);
            }
            ahead++;
        }
        return NONE;
    }

    public int rank(int place, int order) {
        if (!isPlace(place) || !one.load(order) || one.size() > COUNTED) {
            return NO_SUCH;
        }
        int n = one.size();
        int r = one.index();
        Table table = filled(place, n);
        if (table == null) {
            return NOTHING_HELD;
        }
        return table.has(n, r) ? table.ahead(n, r) : NONE;
    }

    public int next(int place, int order) {
        if (!isPlace(place) || !one.load(order) || one.size() > COUNTED) {
            return NO_SUCH;
        }
        int n = one.size();
        int r = one.index();
        Table table = filled(place, n);
        if (table == null) {
            return NOTHING_HELD;
        }
        int found = table.from(n, r + 1);
        return found < 0 ? NONE : orderOf(n, found);
    }

    public int outer(int place, int i) {
        if (!isPlace(place) || i < 0) {
            return NO_SUCH;
        }
        Table table = filled(place, COMPARED);
        if (table == null) {
            return NOTHING_HELD;
        }
        int ahead = 0;
        for (int n = 1; n <= COMPARED; n++) {
            for (int r = 0; r < at(FACTORIAL, n); r++) {
                if (!isOuter(table, n, r)) {
                    continue;
                }
                if (ahead == i) {
                    return orderOf(n, r);
                }
                ahead++;
            }
        }
        return NONE;
    }

    public int kids(int place, int order) {
        if (!isPlace(place) || !one.load(order) || one.size() >= COUNTED) {
            return NO_SUCH;
        }
        Family family = familyAt(place);
        if (family == null) {
            return NOTHING_HELD;
        }
        int found = 0;
        for (int p = 0; p <= one.size(); p++) {
            two.loadWith(one, p);
            if (family.has(two)) {
                found++;
            }
        }
        return found;
    }

    public int same(int place, int other) {
        if (!isPlace(place) || !isPlace(other)) {
            return NO_SUCH;
        }
        Table table = filled(place, COMPARED);
        Table second = filled(other, COMPARED);
        if (table == null || second == null) {
            return NOTHING_HELD;
        }
        for (int n = 0; n <= COMPARED; n++) {
            for (int r = 0; r < at(FACTORIAL, n); r++) {
                if (table.has(n, r) != second.has(n, r)) {
                    return 0;
                }
            }
        }
        return 1;
    }

    public int like(int place, int other) {
        if (!isPlace(place) || !isPlace(other)) {
            return NO_SUCH;
        }
        if (!(familyAt(place) instanceof Free free)) {
            return refusalAt(place);
        }
        if (!(familyAt(other) instanceof Free second)) {
            return refusalAt(other);
        }
        for (int turn = 0; turn < TURNS; turn++) {
            if (turnsInto(free, turn, second)) {
                return turn;
            }
        }
        return NONE;
    }

    public int turnedClass(int place, int turn, int to) {
        if (!isPlace(place) || !isTurn(turn) || !isPlace(to)) {
            return NO_SUCH;
        }
        if (!(familyAt(place) instanceof Free free)) {
            return refusalAt(place);
        }
        Free made = new Free(search);
        for (int i = 0; i < free.told(); i++) {
            made.take(afterTurn(free.pattern(i), turn));
        }
        settle(to, made);
        return made.told();
    }

    // ---- numbers

    public int mean(int pattern, int n, int which) {
        int k = sizeOf(pattern);
        if (k < 1 || n > LONGEST || k > n || which < 0 || which > 1) {
            return NO_SUCH;
        }
        // Each set of k places has the PATTERN in one of k! ORDERS.
        int standings = at(FACTORIAL, k);
        int sets = quotient(at(FACTORIAL, n), standings * at(FACTORIAL, n - k));
        int shared = commonDivisor(sets, standings);
        return quotient(which == 0 ? sets : standings, shared);
    }

    public int all(int place, int n, int pattern) {
        if (!isPlace(place) || n < 0 || n > MERELY_WALKED || sizeOf(pattern) < 0) {
            return NO_SUCH;
        }
        Table table = filled(place, n);
        if (table == null || !search.aim(pattern)) {
            return NOTHING_HELD;
        }
        int found = 0;
        for (int r = 0; r < at(FACTORIAL, n); r++) {
            if (table.has(n, r)) {
                walker.loadIndex(n, r);
                found += search.ways(walker);
            }
        }
        return found;
    }

    public int most(int pattern, int n) {
        int best = fullest(pattern, n);
        if (best < 0) {
            return NO_SUCH;
        }
        walker.loadIndex(n, best);
        return search.ways(walker);
    }

    public int packed(int pattern, int n) {
        int best = fullest(pattern, n);
        return best < 0 ? NO_SUCH : orderOf(n, best);
    }

    public int merges(int order, int a, int b) {
        int first = sizeOf(a);
        int second = sizeOf(b);
        if (!one.load(order) || first < 0 || second < 0) {
            return NO_SUCH;
        }
        if (first + second != one.size()) {
            return NONE;
        }
        int found = 0;
        for (int places = 0; places < 1 << one.size(); places++) {
            if (Integer.bitCount(places) == first && standsAs(places, a) && standsAs(~places, b)) {
                found++;
            }
        }
        return found;
    }

    public int rows(int order, boolean falling) {
        if (!one.load(order)) {
            return NO_SUCH;
        }
        // As many rows as the longest row that runs the other way has numbers.
        rising.enterAll(one);
        return falling ? rising.width(0) : rising.height();
    }

    public int keep(int d, int what, int place, int k) {
        if (!isShelf(d)) {
            return NO_SUCH;
        }
        if (what == KEEP_NOTHING) {
            shelves[d] = null;
            return 0;
        }
        if (what == BYTES) {
            return keepOrder(d, k);
        }
        if (what != KEEP_CLASS && what != INTS || !isPlace(place)) {
            return NO_SUCH;
        }
        Family family = familyAt(place);
        if (family == null) {
            return NOTHING_HELD;
        }
        shelves[d] = what == KEEP_CLASS ? family.asItIs() : countsIn(filled(place, COMPARED));
        return 0;
    }

    public int row(int d, int what, int n) {
        if (!isShelf(d) || what != BYTES && what != INTS || n > MOST_ELEMENTS) {
            return NO_SUCH;
        }
        if (n < 0) {
            return BELOW_ZERO;
        }
        shelves[d] = new Row(what, n);
        return 0;
    }

    public long element(int d, int i) throws IllegalArgumentException, IllegalStateException {
        if (!isShelf(d)) {
            throw new IllegalArgumentException("no such shelf");
        }
        if (!(heldOn(d) instanceof Row row) || i < 0 || i >= row.size()) {
            throw new IllegalStateException("no such element");
        }
        return row.value(i);
    }

    public int copy(int d, int i, int e, int j, int n) {
        if (!isShelf(d) || !isShelf(e)) {
            return NO_SUCH;
        }
        if (heldOn(d) == null || heldOn(e) == null) {
            return NOTHING_HELD;
        }
        if (!(heldOn(d) instanceof Row source) || !(heldOn(e) instanceof Row target)) {
            return OTHER_KIND;
        }
        if (source.what() != target.what()) {
            return OTHER_KIND;
        }
        if (!source.hasStretch(i, n) || !target.hasStretch(j, n)) {
            return NO_PLACE;
        }
        target.takeFrom(source, i, j, n);
        return n;
    }

    public int read(int d) {
        if (!isShelf(d)) {
            return NO_SUCH;
        }
        Held held = heldOn(d);
        if (held == null) {
            return NOTHING_HELD;
        }
        if (!(held instanceof Row row) || row.what() != BYTES) {
            return OTHER_KIND;
        }
        if (row.size() > LONGEST) {
            return NO_PLACE;
        }
        one.empty();
        for (int i = 0; i < row.size(); i++) {
            if (one.contains(row.value(i))) {
                return NONE;
            }
            one.append(row.value(i));
        }
        return one.standing(0, one.size());
    }

    public int weight(int d) {
        if (!isShelf(d)) {
            return NO_SUCH;
        }
        Held held = heldOn(d);
        if (held == null) {
            return NOTHING_HELD;
        }
        return held instanceof Family family ? family.heft() : OTHER_KIND;
    }

    public int toss(int d) {
        if (!isShelf(d)) {
            return NO_SUCH;
        }
        Held held = heldOn(d);
        if (held == null) {
            return NOTHING_HELD;
        }
        if (!(held instanceof Family family)) {
            return OTHER_KIND;
        }
        try {
            family.fail();
        } catch (IllegalStateException ofStacks) {
            return family.told();
        } catch (UnsupportedOperationException ofCells) {
            return family.told();
        }
        return NO_FAILURE;
    }

    // ---- numbers and rows of numbers

    private static int at(int[] numbers, int i) {
        return i >= 0 && i < numbers.length ? numbers[i] : 0;
    }

    private static void set(int[] numbers, int i, int v) {
        if (i >= 0 && i < numbers.length) {
            numbers[i] = v;
        }
    }

    private static int quotient(int a, int b) {
        return b == 0 ? 0 : a / b;
    }

    private static int remainder(int a, int b) {
        return b == 0 ? 0 : a % b;
    }

    private static int commonDivisor(int a, int b) {
        int shared = 1;
        for (int d = 2; d <= Math.min(a, b); d++) {
            if (remainder(a, d) == 0 && remainder(b, d) == 0) {
                shared = d;
            }
        }
        return shared;
    }

    /** n of an ORDER; -1: it is none. */
    private static int sizeOf(int order) {
        if (order < 0) {
            return NO_SUCH;
        }
        int digits = 0;
        int seen = 0;
        for (int rest = order; rest > 0; rest /= 10) {
            digits++;
            seen |= 1 << rest % 10;
        }
        // Bits 1 .. n are there just if no digit is 0, above n, or there twice.
        return digits <= LONGEST && seen == (1 << digits + 1) - 2 ? digits : NO_SUCH;
    }

    private static boolean isTurn(int turn) {
        return turn >= 0 && turn < TURNS;
    }

    private static boolean isPlace(int place) {
        return place >= 0 && place < PLACES;
    }

    private static boolean isShelf(int d) {
        return d >= 0 && d < SHELVES;
    }

    // ---- helpers of orders

    private int orderOf(int n, int index) {
        walker.loadIndex(n, index);
        return walker.told();
    }

    private int afterTurn(int order, int turn) {
        if (!two.load(order)) {
            return NO_SUCH;
        }
        int n = two.size();
        three.open(n);
        for (int i = 0; i < n; i++) {
            int place = (turn & BACKWARD) != 0 ? n - 1 - i : i;
            int number = (turn & UPSIDE_DOWN) != 0 ? n + 1 - two.num(i) : two.num(i);
            if ((turn & EXCHANGED) != 0) {
                three.change(number - 1, place + 1);
            } else {
                three.change(place, number);
            }
        }
        return three.told();
    }

    /** KIND of the PARTS of the ORDER in line one. */
    private int kindOfParts() {
        if (one.size() < 2) {
            return 0;
        }
        if (cutAs(1) > 1) {
            return 1;
        }
        return cutAs(2) > 1 ? 2 : 3;
    }

    /** Cuts the ORDER in line one as a KIND tells; partEnds gets where the PARTS end. */
    private int cutAs(int kind) {
        if (kind == 0) {
            return 0;
        }
        return kind == 3 ? cutIntoSpans() : cutIntoPieces(kind == 2);
    }

    private int cutIntoPieces(boolean skew) {
        int n = one.size();
        int many = 0;
        int greatest = 0;
        for (int i = 0; i < n; i++) {
            greatest = Math.max(greatest, skew ? n + 1 - one.num(i) : one.num(i));
            if (greatest == i + 1) {
                set(partEnds, many, i + 1);
                many++;
            }
        }
        return many;
    }

    private int cutIntoSpans() {
        int many = 0;
        int start = 0;
        while (start < one.size()) {
            // The greatest SPANS have no place in common, so that the longest from here is one.
            start = Math.max(start + 1, one.endOfLongestSpan(start));
            set(partEnds, many, start);
            many++;
        }
        return many;
    }

    private int startOfPart(int i) {
        return i == 0 ? 0 : at(partEnds, i - 1);
    }

    private int standingOfParts(int many) {
        two.empty();
        for (int i = 0; i < many; i++) {
            two.append(one.num(startOfPart(i)));
        }
        return two.standing(0, two.size());
    }

    private int simpleOnesOf(int n) {
        int found = 0;
        for (int r = 0; r < at(FACTORIAL, n); r++) {
            walker.loadIndex(n, r);
            if (walker.isSimple()) {
                found++;
            }
        }
        return found;
    }

    /** Whether the numbers of line one at the places told by bits stand as an ORDER does. */
    private boolean standsAs(int places, int order) {
        two.empty();
        for (int i = 0; i < one.size(); i++) {
            if ((places >> i & 1) != 0) {
                two.append(one.num(i));
            }
        }
        return two.standing(0, two.size()) == order;
    }

    /** Index of the first ORDER of n that has the PATTERN most often; -1: not as told. */
    private int fullest(int pattern, int n) {
        if (n < 0 || n > MERELY_WALKED || !search.aim(pattern)) {
            return NO_SUCH;
        }
        int best = 0;
        int greatest = 0;
        for (int r = 0; r < at(FACTORIAL, n); r++) {
            walker.loadIndex(n, r);
            int found = search.ways(walker);
            if (found > greatest) {
                greatest = found;
                best = r;
            }
        }
        return best;
    }

    // ---- helpers of classes

    private Family familyAt(int place) {
        return isPlace(place) ? families[place] : null;
    }

    private int refusalAt(int place) {
        return familyAt(place) == null ? NOTHING_HELD : OTHER_KIND;
    }

    private void settle(int place, Family family) {
        if (isPlace(place)) {
            families[place] = family;
            forget(place);
        }
    }

    private void forget(int place) {
        Table table = isPlace(place) ? tables[place] : null;
        if (table != null) {
            table.forget();
        }
    }

    /** A new CLASS; null: it is not as told. */
    private Family madeOf(int kind, int told) {
        if (kind == FREE) {
            return new Free(search);
        }
        if (kind == SUMS) {
            return new Sums(search);
        }
        if (kind == STACKED && told >= 1 && told <= MOST_STACKS) {
            return told == 1 ? oneStack : twoStacks;
        }
        int cells = kind == GRID ? cellsOf(told) : 0;
        return cells > 0 ? new Grid(told, cells) : null;
    }

    /** How many CELLS are told by digits to the base 3; 0: not as told. */
    private static int cellsOf(int told) {
        int cells = 0;
        for (int rest = told; rest > 0; rest /= 3) {
            if (rest % 3 == 0 || cells == MOST_CELLS) {
                return 0;
            }
            cells++;
        }
        return cells;
    }

    private Table tableOf(int place) {
        if (familyAt(place) instanceof Stacked stacked) {
            return tables[stacked == oneStack ? PLACES : PLACES + 1];
        }
        return isPlace(place) ? tables[place] : null;
    }

    /** The Table of the CLASS at a PLACE, right up to n; null: there is none. */
    private Table filled(int place, int n) {
        Family family = familyAt(place);
        Table table = tableOf(place);
        if (family == null || table == null) {
            return null;
        }
        for (int level = table.levels(); level <= Math.min(n, COUNTED); level++) {
            fill(family, table, level);
            table.closeLevel();
        }
        return table;
    }

    /** Marks the ORDERS of n that a CLASS has, when its Table is right for those of n - 1. */
    private void fill(Family family, Table table, int n) {
        if (n == 0) {
            table.mark(0, 0);
            return;
        }
        int looks = family.looks(n);
        int rests = at(FACTORIAL, n - 1);
        for (int rest = 0; rest < rests; rest++) {
            // A CLASS has all that an ORDER of it HOLDS, so what is left behind the first number.
            if (!table.has(n - 1, rest)) {
                continue;
            }
            behind.loadIndex(n - 1, rest);
            for (int first = 1; first <= n; first++) {
                walker.loadBehind(first, behind);
                if (hasAllLeft(table, 1, looks) && !family.bars(walker)) {
                    table.mark(n, (first - 1) * rests + rest);
                }
            }
        }
    }

    /** Whether each ORDER that is left when walker loses one of places from .. end - 1 is there. */
    private boolean hasAllLeft(Table table, int from, int end) {
        for (int i = from; i < end; i++) {
            if (!table.has(walker.size() - 1, walker.indexWithout(i))) {
                return false;
            }
        }
        return true;
    }

    private boolean isOuter(Table table, int n, int r) {
        if (table.has(n, r)) {
            return false;
        }
        walker.loadIndex(n, r);
        return hasAllLeft(table, 0, n);
    }

    private boolean turnsInto(Free free, int turn, Free other) {
        if (free.told() != other.told()) {
            return false;
        }
        for (int i = 0; i < free.told(); i++) {
            if (!other.names(afterTurn(free.pattern(i), turn))) {
                return false;
            }
        }
        return true;
    }

    // ---- helpers of shelves

    private Held heldOn(int d) {
        return isShelf(d) ? shelves[d] : null;
    }

    private int keepOrder(int d, int order) {
        if (!isShelf(d) || !one.load(order)) {
            return NO_SUCH;
        }
        Row made = new Row(BYTES, one.size());
        for (int i = 0; i < one.size(); i++) {
            made.change(i, one.num(i));
        }
        shelves[d] = made;
        return 0;
    }

    private static Row countsIn(Table table) {
        Row made = new Row(INTS, COMPARED + 1);
        for (int n = 0; table != null && n <= COMPARED; n++) {
            made.change(n, table.many(n));
        }
        return made;
    }

    // ---- classes inside

    /** An ORDER, or other numbers no two of which are alike, laid out one by one. */
    private static final class Line {
        private final int[] numbers = new int[LONGEST];
        /** For each place of an ORDER that came by an index: how many lower ones are behind it. */
        private final int[] later = new int[LONGEST];
        private int size;

        int size() {
            return size;
        }

        int num(int i) {
            return i >= 0 && i < LONGEST ? numbers[i] : 0;
        }

        void change(int i, int v) {
            set(numbers, i, v);
        }

        boolean hasPlace(int i) {
            return i >= 0 && i < size;
        }

        boolean contains(int v) {
            for (int i = 0; i < size; i++) {
                if (num(i) == v) {
                    return true;
                }
            }
            return false;
        }

        void empty() {
            size = 0;
        }

        void open(int n) {
            size = Math.max(0, Math.min(n, LONGEST));
        }

        void append(int v) {
            change(size, v);
            open(size + 1);
        }

        void appendAll(Line other, int more) {
            for (int i = 0; i < other.size; i++) {
                append(other.num(i) + more);
            }
        }

        /** Lays out an ORDER; false: it is none. */
        boolean load(int order) {
            int n = sizeOf(order);
            open(n);
            int rest = order;
            for (int i = n - 1; i >= 0; i--) {
                change(i, rest % 10);
                rest /= 10;
            }
            return n >= 0;
        }

        /** Lays out another ORDER with its n + 1 put at a place. */
        void loadWith(Line other, int place) {
            empty();
            for (int i = 0; i <= other.size; i++) {
                if (i == place) {
                    append(other.size + 1);
                }
                if (i < other.size) {
                    append(other.num(i));
                }
            }
        }

        /** Lays out a number, and behind it another Line's ORDER that came by an index. */
        void loadBehind(int first, Line other) {
            open(other.size + 1);
            change(0, first);
            set(later, 0, first - 1);
            for (int i = 1; i < size; i++) {
                int v = other.num(i - 1);
                change(i, v < first ? v : v + 1);
                set(later, i, at(other.later, i - 1));
            }
        }

        /** Lays out ORDER r, from 0, of all those of n. */
        void loadIndex(int n, int r) {
            open(n);
            int rest = r;
            for (int i = size - 1; i >= 0; i--) {
                int number = remainder(rest, size - i) + 1;
                rest = quotient(rest, size - i);
                for (int j = i + 1; j < size; j++) {
                    if (num(j) >= number) {
                        change(j, num(j) + 1);
                    }
                }
                change(i, number);
                set(later, i, number - 1);
            }
        }

        /** How many ORDERS of n come before this one. */
        int index() {
            int before = 0;
            for (int i = 0; i < size; i++) {
                before = before * (size - i) + lowerBehind(i);
            }
            return before;
        }

        private int lowerBehind(int place) {
            int lower = 0;
            for (int i = place + 1; i < size; i++) {
                if (num(i) < num(place)) {
                    lower++;
                }
            }
            return lower;
        }

        /** The index of the ORDER that is left without a place, if this one came by an index. */
        int indexWithout(int place) {
            int gone = num(place);
            int before = 0;
            int choices = size - 1;
            for (int i = 0; i < size; i++) {
                if (i != place) {
                    int lower = at(later, i);
                    before = before * choices + (i < place && gone < num(i) ? lower - 1 : lower);
                    choices--;
                }
            }
            return before;
        }

        int told() {
            int order = 0;
            for (int i = 0; i < size; i++) {
                order = order * 10 + num(i);
            }
            return order;
        }

        /** The ORDER as which the numbers from one place on, up to another, stand. */
        int standing(int from, int end) {
            int order = 0;
            for (int i = from; i < end; i++) {
                int number = 1;
                for (int j = from; j < end; j++) {
                    if (num(j) < num(i)) {
                        number++;
                    }
                }
                order = order * 10 + number;
            }
            return order;
        }

        boolean isPiece() {
            int greatest = 0;
            for (int i = 0; i < size - 1; i++) {
                greatest = Math.max(greatest, num(i));
                if (greatest == i + 1) {
                    return false;
                }
            }
            return true;
        }

        int spansInside() {
            int found = 0;
            for (int start = 0; start < size; start++) {
                found += Integer.bitCount(endsOfSpans(start));
            }
            return found;
        }

        boolean isSimple() {
            for (int start = 0; start < size; start++) {
                if (endsOfSpans(start) != 0) {
                    return false;
                }
            }
            return size >= 2;
        }

        /** Where the longest SPAN from a place on ends; one behind the place if there is none. */
        int endOfLongestSpan(int start) {
            int ends = endsOfSpans(start);
            return ends == 0 ? start + 1 : 31 - Integer.numberOfLeadingZeros(ends);
        }

        /** The places behind the SPANS that begin at a place, as bits. */
        private int endsOfSpans(int start) {
            int ends = 0;
            int low = num(start);
            int high = low;
            for (int i = start + 1; i < size; i++) {
                low = Math.min(low, num(i));
                high = Math.max(high, num(i));
                if (high - low == i - start && i - start + 1 < size) {
                    ends |= 1 << i + 1;
                }
            }
            return ends;
        }
    }

    /** Looks for the places at which an ORDER HOLDS a PATTERN, the one that was aimed at last. */
    private static final class Search {
        private final Line pattern = new Line();
        private final Line whole = new Line();
        /** For each place of the PATTERN: where, ahead of it, the next lower number stands. */
        private final int[] under = new int[LONGEST];
        /** Likewise the next higher one; -1: there is none. */
        private final int[] over = new int[LONGEST];
        private final int[] taken = new int[LONGEST];

        boolean aim(int order) {
            boolean is = pattern.load(order);
            for (int t = 0; t < pattern.size(); t++) {
                set(under, t, nearest(t, true));
                set(over, t, nearest(t, false));
            }
            return is;
        }

        private int nearest(int t, boolean lower) {
            int found = -1;
            for (int s = 0; s < t; s++) {
                boolean isLower = pattern.num(s) < pattern.num(t);
                boolean isNearer = found < 0 || pattern.num(s) > pattern.num(found) == lower;
                if (isLower == lower && isNearer) {
                    found = s;
                }
            }
            return found;
        }

        boolean finds(int order) {
            return whole.load(order) && firstFrom(whole, 0, 0) >= 0;
        }

        private boolean fits(int t, int number) {
            int low = at(under, t);
            int high = at(over, t);
            return (low < 0 || at(taken, low) < number) && (high < 0 || at(taken, high) > number);
        }

        int ways(Line order) {
            return waysFrom(order, 0, 0);
        }

        /** In how many ways the PATTERN's numbers from t on stand at places from one on. */
        private int waysFrom(Line order, int t, int from) {
            if (t >= pattern.size()) {
                return 1;
            }
            int found = 0;
            for (int p = from; p <= order.size() - pattern.size() + t; p++) {
                if (fits(t, order.num(p))) {
                    set(taken, t, order.num(p));
                    found += waysFrom(order, t + 1, p + 1);
                }
            }
            return found;
        }

        /** The first places at which an ORDER HOLDS it, as bits; -1: none. */
        int first(Line order) {
            return firstFrom(order, 0, 0);
        }

        private int firstFrom(Line order, int t, int from) {
            if (t >= pattern.size()) {
                return 0;
            }
            for (int p = from; p <= order.size() - pattern.size() + t; p++) {
                if (fits(t, order.num(p))) {
                    set(taken, t, order.num(p));
                    int rest = firstFrom(order, t + 1, p + 1);
                    if (rest >= 0) {
                        return rest | 1 << p;
                    }
                }
            }
            return -1;
        }
    }

    /** The rows that an ORDER's numbers fill when they enter one by one. */
    private static final class Shape {
        private final int[] cells = new int[LONGEST * LONGEST];
        private final int[] widths = new int[LONGEST];

        void enterAll(Line order) {
            Arrays.fill(widths, 0);
            for (int i = 0; i < order.size(); i++) {
                enter(order.num(i));
            }
        }

        private void enter(int number) {
            int entering = number;
            for (int r = 0; r < LONGEST; r++) {
                int c = 0;
                while (c < width(r) && at(cells, r * LONGEST + c) < entering) {
                    c++;
                }
                int driven = at(cells, r * LONGEST + c);
                set(cells, r * LONGEST + c, entering);
                if (c == width(r)) {
                    set(widths, r, c + 1);
                    return;
                }
                entering = driven;
            }
        }

        int width(int r) {
            return at(widths, r);
        }

        int height() {
            return below(0, 0);
        }

        /** How many rows from one on have a place in a column. */
        private int below(int r, int column) {
            int found = 0;
            for (int i = r; i < LONGEST; i++) {
                if (width(i) > column) {
                    found++;
                }
            }
            return found;
        }

        int hooks() {
            int product = 1;
            for (int r = 0; r < LONGEST; r++) {
                for (int c = 0; c < width(r); c++) {
                    product *= width(r) - c + below(r + 1, c);
                }
            }
            return product;
        }
    }

    /** Which ORDERS of n 0 .. 8 a CLASS has, a bit for each; filled for one n after the other. */
    private static final class Table {
        private final long[] bits = new long[723];
        private final int[] many = new int[COUNTED + 1];
        private int levels;

        int levels() {
            return levels;
        }

        void closeLevel() {
            levels++;
        }

        void forget() {
            if (levels > 0) {
                Arrays.fill(bits, 0L);
                Arrays.fill(many, 0);
                levels = 0;
            }
        }

        void mark(int n, int r) {
            int bit = at(START, n) + r;
            int word = bit >> 6;
            if (word >= 0 && word < bits.length) {
                bits[word] |= 1L << (bit & 63);
                set(many, n, many(n) + 1);
            }
        }

        boolean has(int n, int r) {
            int bit = at(START, n) + r;
            int word = bit >> 6;
            return word >= 0 && word < bits.length && (bits[word] >> (bit & 63) & 1L) != 0;
        }

        int many(int n) {
            return at(many, n);
        }

        int ahead(int n, int r) {
            int found = 0;
            for (int i = 0; i < r; i++) {
                if (has(n, i)) {
                    found++;
                }
            }
            return found;
        }

        /** The first ORDER of n that is there, from r on; -1: none. */
        int from(int n, int r) {
            for (int i = r; i < at(FACTORIAL, n); i++) {
                if (has(n, i)) {
                    return i;
                }
            }
            return -1;
        }
    }

    /** What a SHELF can hold. */
    private interface Held {
    }

    /** A ROW of bytes or ints. */
    private static final class Row implements Held {
        private final int what;
        private final int[] values;

        Row(int what, int n) {
            this.what = what;
            values = new int[Math.max(0, Math.min(n, MOST_ELEMENTS))];
        }

        int what() {
            return what;
        }

        int size() {
            return values.length;
        }

        int value(int i) {
            return at(values, i);
        }

        void change(int i, int v) {
            set(values, i, v);
        }

        boolean hasStretch(int from, int n) {
            return n >= 0 && from >= 0 && n <= values.length - from;
        }

        void takeFrom(Row source, int i, int j, int n) {
            if (source.hasStretch(i, n) && hasStretch(j, n)) {
                System.arraycopy(source.values, i, values, j, n);
            }
        }
    }

    /** A CLASS. */
    private abstract static class Family implements Held {
        abstract int kind();

        /** How many PATTERNS, stacks, or CELLS. */
        abstract int told();

        abstract int heft();

        /**
         * Of an ORDER of n it is known whether it is in, once it is known of those that are left
         * when it loses one of its first places (so many of them, the very first in any case),
         * and from bars().
         */
        int looks(int n) {
            return 0;
        }

        abstract boolean bars(Line order);

        boolean has(Line order) {
            return !bars(order);
        }

        Family asItIs() {
            return this;
        }

        /** Throws its FAILURE, if it has one. */
        void fail() {
        }
    }

    private static class Free extends Family {
        final Search search;
        private final int[] patterns = new int[MOST_PATTERNS];
        private int many;

        Free(Search search) {
            this.search = search;
        }

        int kind() {
            return FREE;
        }

        int told() {
            return many;
        }

        int pattern(int i) {
            return at(patterns, i);
        }

        boolean isFull() {
            return many >= MOST_PATTERNS;
        }

        boolean names(int pattern) {
            for (int i = 0; i < many; i++) {
                if (at(patterns, i) == pattern) {
                    return true;
                }
            }
            return false;
        }

        boolean accepts(Line pattern) {
            return true;
        }

        void take(int pattern) {
            if (many < MOST_PATTERNS) {
                set(patterns, many, pattern);
                many++;
            }
        }

        boolean has(Line order) {
            for (int i = 0; i < many; i++) {
                if (search.aim(pattern(i)) && search.first(order) >= 0) {
                    return false;
                }
            }
            return true;
        }

        /** A PATTERN of k, fewer than n, that is held leaves out one of any k + 1 places. */
        int looks(int n) {
            int most = 0;
            for (int i = 0; i < many; i++) {
                int k = sizeOf(pattern(i));
                most = k < n ? Math.max(most, k + 1) : most;
            }
            return most;
        }

        boolean bars(Line order) {
            return names(order.told());
        }

        /** Drops the PATTERNS that HOLD another one: those that hold none stay in any case. */
        void dropHolders() {
            for (int i = many - 1; i >= 0; i--) {
                if (holdsAnother(i)) {
                    drop(i);
                }
            }
        }

        private boolean holdsAnother(int i) {
            for (int j = 0; j < many; j++) {
                if (j != i && search.aim(pattern(j)) && search.finds(pattern(i))) {
                    return true;
                }
            }
            return false;
        }

        private void drop(int place) {
            many--;
            for (int i = place; i < many; i++) {
                set(patterns, i, pattern(i + 1));
            }
        }

        int heft() {
            return 10 + many;
        }

        Free anew() {
            return new Free(search);
        }

        Family asItIs() {
            Free other = anew();
            for (int i = 0; i < many; i++) {
                other.take(pattern(i));
            }
            return other;
        }
    }

    private static final class Sums extends Free {
        Sums(Search search) {
            super(search);
        }

        int kind() {
            return SUMS;
        }

        boolean accepts(Line pattern) {
            return pattern.isPiece();
        }

        Free anew() {
            return new Sums(search);
        }

        int heft() {
            return 2 * super.heft();
        }
    }

    private static final class Stacked extends Family {
        private final int stacks;
        private final int[] leaving = new int[LONGEST];
        private int size;
        /** At a state of two stacks: the search that came to it last. */
        private final int[] seen = new int[2 << LONGEST];
        private int searches;

        Stacked(int stacks) {
            this.stacks = stacks;
        }

        int kind() {
            return STACKED;
        }

        int told() {
            return stacks;
        }

        boolean bars(Line order) {
            size = order.size();
            for (int i = 0; i < size; i++) {
                set(leaving, i, order.num(i));
            }
            searches++;
            return !(stacks == 1 ? leavesOne() : leavesTwo(0, 0, 0));
        }

        private boolean leavesOne() {
            int inside = 0;
            int come = 0;
            for (int i = 0; i < size; i++) {
                int number = at(leaving, i);
                for (; come < number; come++) {
                    inside |= 1 << come + 1;
                }
                // Numbers lie on one another as they came: none above this one may be there.
                if (inside >> number != 1) {
                    return false;
                }
                inside &= ~(1 << number);
            }
            return true;
        }

        /**
         * Whether the ORDER can still come out when so many numbers have come in, and some of them
         * (as bits, 1 lowest) lie on the first stack. The second one has the others, but for those
         * that could leave, and they always leave at once.
         */
        private boolean leavesTwo(int come, int first, int acts) {
            if (come == size && first == 0) {
                return true;
            }
            int state = 1 << come | first;
            if (acts > 2 * size || at(seen, state) == searches) {
                return false;
            }
            set(seen, state, searches);
            int top = Integer.highestOneBit(first);
            if (top != 0 && mayPass(come, first, top) && leavesTwo(come, first & ~top, acts + 1)) {
                return true;
            }
            return come < size && leavesTwo(come + 1, first | 1 << come, acts + 1);
        }

        /** Whether the first stack's top leaves ahead of all that the second one has. */
        private boolean mayPass(int come, int first, int top) {
            int passed = (1 << come) - 1 & ~first;
            boolean left = true;
            for (int i = 0; i < size; i++) {
                int number = 1 << at(leaving, i) - 1;
                if (number == top) {
                    return true;
                }
                left = left && (passed & number) != 0;
                if (!left && (passed & number) != 0) {
                    return false;
                }
            }
            return false;
        }

        static int heftOf(int many) {
            return 100 + many;
        }

        int heft() {
            return heftOf(stacks);
        }

        void fail() {
            throw new IllegalStateException("a row of stacks");
        }
    }

    private static final class Grid extends Family {
        private final int told;
        private final int cells;

        Grid(int told, int cells) {
            this.told = told;
            this.cells = cells;
        }

        int kind() {
            return GRID;
        }

        int told() {
            return cells;
        }

        boolean bars(Line order) {
            int cut = 0;
            int rest = told;
            for (int cell = 0; cell < cells; cell++) {
                cut = endOfStretch(order, cut, rest % 3 == 2);
                rest /= 3;
            }
            return cut < order.size();
        }

        private static int endOfStretch(Line order, int from, boolean falling) {
            int end = Math.min(from + 1, order.size());
            while (end < order.size() && order.num(end) < order.num(end - 1) == falling) {
                end++;
            }
            return end;
        }

        int heft() {
            return 1000 + Stacked.heftOf(cells);
        }

        void fail() {
            throw new UnsupportedOperationException("a row of cells");
        }
    }
}
