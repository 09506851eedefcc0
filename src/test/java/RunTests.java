import java.util.Random;

/** Runs of 512 drawn calls, right and wrong ones, on new objects and new Models. */
final class RunTests {
    private static final int CALLS = 512;

    private final Checks checks;
    private Random random;
    private OrderPatterns x;
    private Model model;
    private int longest;

    RunTests(Checks checks) {
        this.checks = checks;
    }

    void run() {
        for (int seed = 0; seed < 120; seed++) {
            random = new Random(seed);
            x = new OrderPatterns();
            model = new Model();
            // Long ORDERS are slow in the Model, so that few runs count them.
            longest = seed % 20 == 0 ? 8 : 5;
            boolean right = true;
            for (int call = 0; call < CALLS && right; call++) {
                right = call(seed, call);
            }
        }
    }

    private int below(int bound) {
        return random.nextInt(bound);
    }

    private boolean rarely() {
        return below(25) == 0;
    }

    private int wild() {
        int[] found = {-1, -2, 99, 12, 13, Integer.MIN_VALUE, Integer.MAX_VALUE, 6, 61};
        return found[below(found.length)];
    }

    private int place() {
        return rarely() ? wild() : below(4) == 0 ? below(12) : below(4);
    }

    private int shelf() {
        return rarely() ? wild() : below(6);
    }

    private int order(int atMost) {
        if (rarely()) {
            int[] wrong = {-1, 10, 11, 2, 122, 1234567890, 24, 987654320, 0};
            return wrong[below(wrong.length)];
        }
        return DefinitionTests.drawn(random, below(atMost + 1));
    }

    private int size(int atMost) {
        return rarely() ? wild() : below(atMost + 1);
    }

    private boolean call(int seed, int number) {
        int a = place();
        int b = place();
        int d = shelf();
        int e = shelf();
        switch (below(24)) {
            case 0: {
                int kind = below(20) == 0 ? wild() : below(3) == 0 ? below(4) : below(2);
                int told = below(5) == 0 ? below(100) - 5 : kind == 2 ? 1 + below(2) : 1 + below(8);
                return due(seed, number, "make " + a + " " + kind + " " + told,
                        x.make(a, kind, told), model.make(a, kind, told));
            }
            case 1, 2, 3: {
                int order = order(below(4) == 0 ? 9 : 5);
                return due(seed, number, "add " + a + " " + order,
                        x.add(a, order), model.add(a, order));
            }
            case 4:
                return due(seed, number, "thin " + a, x.thin(a), model.thin(a));
            case 5: {
                int what = size(8);
                return due(seed, number, "look " + a + " " + what,
                        x.look(a, what), model.look(a, what));
            }
            case 6: {
                int order = order(9);
                return due(seed, number, "in " + a + " " + order,
                        x.in(a, order), model.in(a, order));
            }
            case 7: {
                int n = size(longest);
                return due(seed, number, "count " + a + " " + n, x.count(a, n), model.count(a, n));
            }
            case 8: {
                int n = size(longest);
                int i = below(3) == 0 ? below(800) - 2 : below(25) - 1;
                return due(seed, number, "ranked " + a + " " + n + " " + i,
                        x.ranked(a, n, i), model.ranked(a, n, i));
            }
            case 9: {
                int order = order(longest);
                return due(seed, number, "rank " + a + " " + order,
                        x.rank(a, order), model.rank(a, order));
            }
            case 10: {
                int order = order(longest);
                return due(seed, number, "next " + a + " " + order,
                        x.next(a, order), model.next(a, order));
            }
            case 11: {
                int i = rarely() ? wild() : below(8);
                return due(seed, number, "outer " + a + " " + i, x.outer(a, i), model.outer(a, i));
            }
            case 12: {
                int order = order(longest - 1);
                return due(seed, number, "kids " + a + " " + order,
                        x.kids(a, order), model.kids(a, order));
            }
            case 13:
                return due(seed, number, "same " + a + " " + b, x.same(a, b), model.same(a, b));
            case 14:
                return due(seed, number, "like " + a + " " + b, x.like(a, b), model.like(a, b));
            case 15: {
                int turn = size(7);
                return due(seed, number, "turnedClass " + a + " " + turn + " " + b,
                        x.turnedClass(a, turn, b), model.turnedClass(a, turn, b));
            }
            case 16: {
                int n = size(Math.min(longest, 7));
                int order = order(4);
                return due(seed, number, "all " + a + " " + n + " " + order,
                        x.all(a, n, order), model.all(a, n, order));
            }
            case 17: {
                int what = rarely() ? wild() : below(5);
                int order = order(9);
                return due(seed, number, "keep " + d + " " + what + " " + a + " " + order,
                        x.keep(d, what, a, order), model.keep(d, what, a, order));
            }
            case 18: {
                int what = rarely() ? wild() : 3 + below(2);
                int n = rarely() ? wild() : below(8) == 0 ? 58 + below(4) : below(12) - 1;
                return due(seed, number, "row " + d + " " + what + " " + n,
                        x.row(d, what, n), model.row(d, what, n));
            }
            case 19: {
                int i = rarely() ? wild() : below(8);
                return due(seed, number, "element " + d + " " + i, element(d, i), modelElement(d, i));
            }
            case 20, 21: {
                int i = rarely() ? wild() : below(6);
                int j = rarely() ? wild() : below(6);
                int n = rarely() ? wild() : below(6);
                return due(seed, number, "copy " + d + " " + i + " " + e + " " + j + " " + n,
                        x.copy(d, i, e, j, n), model.copy(d, i, e, j, n));
            }
            case 22:
                return due(seed, number, "read " + d, x.read(d), model.read(d));
            default:
                return due(seed, number, "weight " + d, x.weight(d), model.weight(d))
                        && due(seed, number, "toss " + d, x.toss(d), model.toss(d));
        }
    }

    private long element(int d, int i) {
        try {
            return x.element(d, i);
        } catch (IllegalArgumentException noShelf) {
            return -1001;
        } catch (IllegalStateException noElement) {
            return -1002;
        }
    }

    private long modelElement(int d, int i) {
        try {
            return model.element(d, i);
        } catch (IllegalArgumentException noShelf) {
            return -1001;
        } catch (IllegalStateException noElement) {
            return -1002;
        }
    }

    private boolean due(int seed, int number, String call, long got, long want) {
        checks.due("run " + seed + " call " + number + ": " + call, got, want);
        return got == want;
    }
}
