import java.util.ArrayList;
import java.util.Arrays;
import java.util.HashMap;
import java.util.HashSet;
import java.util.List;
import java.util.Map;
import java.util.Set;
import java.util.TreeSet;

/**
 * The document written down a second time, as plainly and slowly as its words stand there, with
 * the whole Java library: what the program answers is compared with this.
 */
final class Model {
    private static final Map<Integer, List<Integer>> ORDERS = new HashMap<>();
    private static final Map<String, List<Integer>> MEMBERS = new HashMap<>();
    private static final Map<String, Set<Integer>> STACKED = new HashMap<>();
    private static final Map<Integer, String> SHAPES = new HashMap<>();

    // ---- orders as rows

    static int[] row(int order) {
        if (order == 0) {
            return new int[0];
        }
        String text = Integer.toString(order);
        int n = text.length();
        if (order < 0 || n > 9) {
            return null;
        }
        int[] row = new int[n];
        for (int i = 0; i < n; i++) {
            row[i] = text.charAt(i) - '0';
            if (row[i] < 1 || row[i] > n || text.indexOf(text.charAt(i)) != i) {
                return null;
            }
        }
        return row;
    }

    static int told(int[] row) {
        StringBuilder text = new StringBuilder("0");
        for (int v : row) {
            text.append(v);
        }
        return Integer.parseInt(text.toString());
    }

    static boolean is(int order) {
        return row(order) != null;
    }

    static int standing(int[] numbers) {
        int[] sorted = numbers.clone();
        Arrays.sort(sorted);
        int[] row = new int[numbers.length];
        for (int i = 0; i < row.length; i++) {
            row[i] = Arrays.binarySearch(sorted, numbers[i]) + 1;
        }
        return told(row);
    }

    static int[] chosen(int[] row, int places) {
        int[] found = new int[Integer.bitCount(places & (1 << row.length) - 1)];
        int next = 0;
        for (int i = 0; i < row.length; i++) {
            if ((places >> i & 1) != 0) {
                found[next++] = row[i];
            }
        }
        return found;
    }

    /** All ORDERS of n, in order. */
    static List<Integer> orders(int n) {
        List<Integer> known = ORDERS.get(n);
        if (known == null) {
            known = ordersOf(n);
            ORDERS.put(n, known);
        }
        return known;
    }

    private static List<Integer> ordersOf(int n) {
        TreeSet<Integer> found = new TreeSet<>();
        if (n == 0) {
            found.add(0);
        } else {
            for (int order : orders(n - 1)) {
                String text = n == 1 ? "" : Integer.toString(order);
                for (int p = 0; p < n; p++) {
                    found.add(Integer.parseInt(text.substring(0, p) + n + text.substring(p)));
                }
            }
        }
        return new ArrayList<>(found);
    }

    // ---- orders alone

    int length(int order) {
        return is(order) ? row(order).length : -1;
    }

    private static List<Integer> placesOf(int order, int pattern) {
        int[] row = row(order);
        int k = row(pattern).length;
        List<Integer> found = new ArrayList<>();
        for (int places = 0; places < 1 << row.length; places++) {
            if (Integer.bitCount(places) == k && standing(chosen(row, places)) == pattern) {
                found.add(places);
            }
        }
        return found;
    }

    int holds(int order, int pattern) {
        if (!is(order) || !is(pattern)) {
            return -1;
        }
        return placesOf(order, pattern).isEmpty() ? 0 : 1;
    }

    int where(int order, int pattern) {
        if (!is(order) || !is(pattern)) {
            return -1;
        }
        int best = -2;
        for (int places : placesOf(order, pattern)) {
            // Of two sets of one size the one with the first place that the other lacks is first.
            int apart = best ^ places;
            if (best == -2 || (Integer.lowestOneBit(apart) & places) != 0) {
                best = places;
            }
        }
        return best;
    }

    int times(int order, int pattern) {
        return is(order) && is(pattern) ? placesOf(order, pattern).size() : -1;
    }

    int turned(int order, int turn) {
        if (!is(order) || turn < 0 || turn > 7) {
            return -1;
        }
        int[] row = row(order);
        int n = row.length;
        if (turn % 2 == 1) {
            int[] backward = new int[n];
            for (int i = 0; i < n; i++) {
                backward[i] = row[n - 1 - i];
            }
            row = backward;
        }
        if (turn / 2 % 2 == 1) {
            for (int i = 0; i < n; i++) {
                row[i] = n + 1 - row[i];
            }
        }
        if (turn / 4 == 1) {
            int[] exchanged = new int[n];
            for (int i = 0; i < n; i++) {
                exchanged[row[i] - 1] = i + 1;
            }
            row = exchanged;
        }
        return told(row);
    }

    int least(int order) {
        if (!is(order)) {
            return -1;
        }
        TreeSet<Integer> turns = new TreeSet<>();
        for (int turn = 0; turn < 8; turn++) {
            turns.add(turned(order, turn));
        }
        return turns.first();
    }

    private static int inflated(int[] row, int[][] blocks) {
        List<Integer> all = new ArrayList<>();
        for (int i = 0; i < row.length; i++) {
            int lower = 0;
            for (int j = 0; j < row.length; j++) {
                lower += row[j] < row[i] ? blocks[j].length : 0;
            }
            for (int v : blocks[i]) {
                all.add(lower + v);
            }
        }
        return told(all.stream().mapToInt(v -> v).toArray());
    }

    int sum(int order, int other, boolean skew) {
        if (!is(order) || !is(other)) {
            return -1;
        }
        int[] a = row(order);
        int[] b = row(other);
        if (a.length + b.length > 9) {
            return -2;
        }
        return skew ? told(joined(more(a, b.length), b)) : told(joined(a, more(b, a.length)));
    }

    private static int[] more(int[] row, int by) {
        int[] found = row.clone();
        for (int i = 0; i < found.length; i++) {
            found[i] += by;
        }
        return found;
    }

    private static int[] joined(int[] first, int[] last) {
        int[] found = Arrays.copyOf(first, first.length + last.length);
        System.arraycopy(last, 0, found, first.length, last.length);
        return found;
    }

    int put(int order, int i, int other) {
        if (!is(order) || !is(other) || other == 0 || i < 0 || i >= row(order).length) {
            return -1;
        }
        int[] row = row(order);
        if (row.length - 1 + row(other).length > 9) {
            return -2;
        }
        int[][] blocks = new int[row.length][];
        Arrays.fill(blocks, new int[] {1});
        blocks[i] = row(other);
        return inflated(row, blocks);
    }

    int without(int order, int i) {
        if (!is(order) || i < 0 || i >= row(order).length) {
            return -1;
        }
        return standing(chosen(row(order), ~(1 << i)));
    }

    /** SPANS as pairs of their first place and the place behind them. */
    private static List<int[]> spansOf(int[] row) {
        List<int[]> found = new ArrayList<>();
        for (int from = 0; from < row.length; from++) {
            for (int end = from + 2; end <= row.length; end++) {
                int[] part = Arrays.copyOfRange(row, from, end);
                Arrays.sort(part);
                boolean follow = part[part.length - 1] - part[0] == part.length - 1;
                if (follow && end - from < row.length) {
                    found.add(new int[] {from, end});
                }
            }
        }
        return found;
    }

    int spans(int order) {
        return is(order) ? spansOf(row(order)).size() : -1;
    }

    /** The PIECES, or the parts of a SKEW, of a row of one or more. */
    private static List<int[]> pieces(int[] row, boolean skew) {
        List<int[]> found = new ArrayList<>();
        int from = 0;
        for (int end = 1; end <= row.length; end++) {
            boolean cut = true;
            for (int i = 0; i < end; i++) {
                for (int j = end; j < row.length; j++) {
                    cut &= skew ? row[i] > row[j] : row[i] < row[j];
                }
            }
            if (cut) {
                found.add(Arrays.copyOfRange(row, from, end));
                from = end;
            }
        }
        return found;
    }

    private static List<int[]> greatestSpans(int[] row) {
        List<int[]> found = new ArrayList<>();
        int[] partOf = new int[row.length];
        List<int[]> spans = spansOf(row);
        int next = 0;
        for (int i = 0; i < row.length; i++) {
            int[] greatest = {i, i + 1};
            for (int[] span : spans) {
                if (span[0] <= i && i < span[1] && span[1] - span[0] > greatest[1] - greatest[0]) {
                    greatest = span;
                }
            }
            partOf[i] = greatest[0];
            if (i == next) {
                found.add(Arrays.copyOfRange(row, greatest[0], greatest[1]));
                next = greatest[1];
            }
            if (greatest[0] > i || greatest[1] > next) {
                throw new IllegalStateException("greatest spans meet");
            }
        }
        return found;
    }

    int parts(int order, int which) {
        if (!is(order) || which < 0 || which > 11) {
            return -1;
        }
        int[] row = row(order);
        int kind = 0;
        List<int[]> parts = new ArrayList<>();
        if (row.length >= 2) {
            kind = pieces(row, false).size() > 1 ? 1 : pieces(row, true).size() > 1 ? 2 : 3;
            parts = kind == 3 ? greatestSpans(row) : pieces(row, kind == 2);
        }
        if (which == 0) {
            return kind;
        }
        if (which == 1) {
            return parts.size();
        }
        if (which == 2) {
            int[] firsts = parts.stream().mapToInt(part -> part[0]).toArray();
            return kind == 3 ? standing(firsts) : 0;
        }
        return which - 3 < parts.size() ? standing(parts.get(which - 3)) : -2;
    }

    int simple(int n) {
        if (n < 0 || n > 8) {
            return -1;
        }
        int found = 0;
        for (int order : orders(n)) {
            found += n >= 2 && spans(order) == 0 ? 1 : 0;
        }
        return found;
    }

    private static List<List<Integer>> shapeOf(int order) {
        List<List<Integer>> rows = new ArrayList<>();
        for (int v : row(order)) {
            int entering = v;
            for (int r = 0; entering > 0; r++) {
                if (r == rows.size()) {
                    rows.add(new ArrayList<>());
                }
                List<Integer> row = rows.get(r);
                int greater = 0;
                for (int there : row) {
                    if (there > entering && (greater == 0 || there < greater)) {
                        greater = there;
                    }
                }
                if (greater == 0) {
                    row.add(entering);
                } else {
                    row.set(row.indexOf(greater), entering);
                }
                entering = greater;
            }
        }
        return rows;
    }

    int shape(int order, int i) {
        if (!is(order) || i < 0) {
            return -1;
        }
        List<List<Integer>> rows = shapeOf(order);
        return i < rows.size() ? rows.get(i).size() : 0;
    }

    private static String lengths(int order) {
        return SHAPES.computeIfAbsent(order,
                o -> shapeOf(o).stream().map(row -> row.size() + " ").reduce("", String::concat));
    }

    int alike(int order) {
        if (!is(order) || row(order).length > 8) {
            return -1;
        }
        int found = 0;
        for (int other : orders(row(order).length)) {
            found += lengths(other).equals(lengths(order)) ? 1 : 0;
        }
        return found;
    }

    // ---- classes

    /** A CLASS: its KIND and its PATTERNS, or the number of stacks, or 1 and -1 for the CELLS. */
    private record Told(int kind, List<Integer> list) {
        int many() {
            return kind == 2 ? list.get(0) : list.size();
        }
    }

    private final Told[] places = new Told[12];

    private static boolean place(int place) {
        return place >= 0 && place < 12;
    }

    private static boolean has(Told told, int order) {
        if (told.kind == 2) {
            int n = row(order).length;
            return n <= 5 ? stacked(told.many(), n).contains(order) : leaves(told.many(), order);
        }
        if (told.kind == 3) {
            return cuts(row(order), 0, told.list, 0);
        }
        for (int pattern : told.list) {
            if (holdsFast(row(order), row(pattern), 0, new int[10], 0)) {
                return false;
            }
        }
        return true;
    }

    private static boolean holdsFast(int[] row, int[] pattern, int t, int[] taken, int from) {
        if (t == pattern.length) {
            return true;
        }
        for (int p = from; p < row.length; p++) {
            boolean fits = true;
            for (int s = 0; s < t && fits; s++) {
                fits = (taken[s] < row[p]) == (pattern[s] < pattern[t]);
            }
            taken[t] = row[p];
            if (fits && holdsFast(row, pattern, t + 1, taken, p + 1)) {
                return true;
            }
        }
        return false;
    }

    private static boolean cuts(int[] row, int from, List<Integer> cells, int cell) {
        if (cell == cells.size()) {
            return from == row.length;
        }
        for (int end = from; end <= row.length; end++) {
            boolean runs = true;
            for (int i = from + 1; i < end; i++) {
                runs &= (row[i] - row[i - 1]) * cells.get(cell) > 0;
            }
            if (runs && cuts(row, end, cells, cell + 1)) {
                return true;
            }
        }
        return false;
    }

    /** All that come out, by trying every act at every state. */
    private static Set<Integer> stacked(int stacks, int n) {
        return STACKED.computeIfAbsent(stacks + " " + n, key -> {
            Set<Integer> found = new HashSet<>();
            Set<String> seen = new HashSet<>();
            List<String[]> open = new ArrayList<>();
            String all = "123456789".substring(0, n);
            String[] start = new String[stacks + 2];
            Arrays.fill(start, "");
            start[0] = new StringBuilder(all).reverse().toString();
            open.add(start);
            while (!open.isEmpty()) {
                String[] state = open.remove(open.size() - 1);
                if (state[stacks + 1].length() == n) {
                    found.add(Integer.parseInt("0" + state[stacks + 1]));
                }
                for (int s = 0; s <= stacks; s++) {
                    if (!state[s].isEmpty()) {
                        String[] after = state.clone();
                        int top = state[s].length() - 1;
                        after[s] = state[s].substring(0, top);
                        after[s + 1] = state[s + 1] + state[s].charAt(top);
                        if (seen.add(String.join("|", after))) {
                            open.add(after);
                        }
                    }
                }
            }
            return found;
        });
    }

    /** Whether an ORDER comes out, by trying every act that sends out no wrong number. */
    private static boolean leaves(int stacks, int order) {
        Set<String> seen = new HashSet<>();
        List<String[]> open = new ArrayList<>();
        String wanted = Integer.toString(order);
        String[] start = new String[stacks + 2];
        Arrays.fill(start, "");
        start[0] = new StringBuilder("123456789".substring(0, wanted.length())).reverse().toString();
        open.add(start);
        while (!open.isEmpty()) {
            String[] state = open.remove(open.size() - 1);
            if (state[stacks + 1].equals(wanted)) {
                return true;
            }
            for (int s = 0; s <= stacks; s++) {
                int top = state[s].length() - 1;
                if (top >= 0) {
                    String[] after = state.clone();
                    after[s] = state[s].substring(0, top);
                    after[s + 1] = state[s + 1] + state[s].charAt(top);
                    if (wanted.startsWith(after[stacks + 1]) && seen.add(String.join("|", after))) {
                        open.add(after);
                    }
                }
            }
        }
        return false;
    }

    private static List<Integer> members(Told told, int n) {
        return MEMBERS.computeIfAbsent(told.kind + " " + told.list + " " + n, key -> {
            List<Integer> found = new ArrayList<>();
            for (int order : orders(n)) {
                if (has(told, order)) {
                    found.add(order);
                }
            }
            return found;
        });
    }

    int make(int place, int kind, int told) {
        if (!place(place) || kind < 0 || kind > 3) {
            return -1;
        }
        if (kind < 2) {
            places[place] = new Told(kind, List.of());
            return 0;
        }
        if (kind == 2) {
            if (told != 1 && told != 2) {
                return -1;
            }
            places[place] = new Told(2, List.of(told));
            return 0;
        }
        if (told < 1) {
            return -1;
        }
        List<Integer> cells = new ArrayList<>();
        String digits = Integer.toString(told, 3);
        for (int i = digits.length() - 1; i >= 0; i--) {
            cells.add(digits.charAt(i) == '1' ? 1 : -1);
        }
        if (digits.length() > 4 || digits.indexOf('0') >= 0) {
            return -1;
        }
        places[place] = new Told(3, cells);
        return 0;
    }

    int add(int place, int pattern) {
        if (!place(place) || !is(pattern) || pattern == 0) {
            return -1;
        }
        Told told = places[place];
        if (told == null) {
            return -11;
        }
        if (told.kind > 1) {
            return -12;
        }
        if (told.list.size() == 6) {
            return -2;
        }
        boolean piece = pieces(row(pattern), false).size() == 1;
        if (told.list.contains(pattern) || told.kind == 1 && !piece) {
            return -3;
        }
        List<Integer> list = new ArrayList<>(told.list);
        list.add(pattern);
        places[place] = new Told(told.kind, list);
        return list.size();
    }

    int thin(int place) {
        if (!place(place)) {
            return -1;
        }
        Told told = places[place];
        if (told == null || told.kind > 1) {
            return told == null ? -11 : -12;
        }
        List<Integer> left = new ArrayList<>();
        for (int pattern : told.list) {
            boolean stays = true;
            for (int other : told.list) {
                stays &= other == pattern || holds(pattern, other) == 0;
            }
            if (stays) {
                left.add(pattern);
            }
        }
        places[place] = new Told(told.kind, left);
        return left.size();
    }

    int look(int place, int what) {
        if (!place(place) || what < 0) {
            return -1;
        }
        Told told = places[place];
        if (told == null) {
            return -11;
        }
        if (what < 2) {
            return what == 0 ? told.kind : told.many();
        }
        if (told.kind > 1) {
            return -12;
        }
        return what - 2 < told.list.size() ? told.list.get(what - 2) : -2;
    }

    int in(int place, int order) {
        if (!place(place) || !is(order)) {
            return -1;
        }
        return places[place] == null ? -11 : has(places[place], order) ? 1 : 0;
    }

    int count(int place, int n) {
        if (!place(place) || n < 0 || n > 8) {
            return -1;
        }
        return places[place] == null ? -11 : members(places[place], n).size();
    }

    int ranked(int place, int n, int i) {
        if (!place(place) || n < 0 || n > 8 || i < 0) {
            return -1;
        }
        if (places[place] == null) {
            return -11;
        }
        List<Integer> members = members(places[place], n);
        return i < members.size() ? members.get(i) : -2;
    }

    int rank(int place, int order) {
        if (!place(place) || !is(order) || row(order).length > 8) {
            return -1;
        }
        if (places[place] == null) {
            return -11;
        }
        int i = members(places[place], row(order).length).indexOf(order);
        return i < 0 ? -2 : i;
    }

    int next(int place, int order) {
        if (!place(place) || !is(order) || row(order).length > 8) {
            return -1;
        }
        if (places[place] == null) {
            return -11;
        }
        for (int member : members(places[place], row(order).length)) {
            if (member > order) {
                return member;
            }
        }
        return -2;
    }

    int outer(int place, int i) {
        if (!place(place) || i < 0) {
            return -1;
        }
        Told told = places[place];
        if (told == null) {
            return -11;
        }
        List<Integer> found = new ArrayList<>();
        for (int n = 1; n <= 6; n++) {
            for (int order : orders(n)) {
                boolean is = !has(told, order);
                for (int p = 0; p < n && is; p++) {
                    is = has(told, without(order, p));
                }
                if (is) {
                    found.add(order);
                }
            }
        }
        return i < found.size() ? found.get(i) : -2;
    }

    int kids(int place, int order) {
        if (!place(place) || !is(order) || row(order).length > 7) {
            return -1;
        }
        if (places[place] == null) {
            return -11;
        }
        int n = row(order).length;
        int found = 0;
        for (int member : members(places[place], n + 1)) {
            int top = Integer.toString(member).indexOf((char) ('1' + n));
            found += without(member, top) == order ? 1 : 0;
        }
        return found;
    }

    int same(int place, int other) {
        if (!place(place) || !place(other)) {
            return -1;
        }
        if (places[place] == null || places[other] == null) {
            return -11;
        }
        for (int n = 0; n <= 6; n++) {
            if (!members(places[place], n).equals(members(places[other], n))) {
                return 0;
            }
        }
        return 1;
    }

    int like(int place, int other) {
        if (!place(place) || !place(other)) {
            return -1;
        }
        for (Told told : new Told[] {places[place], places[other]}) {
            if (told == null || told.kind > 1) {
                return told == null ? -11 : -12;
            }
        }
        for (int turn = 0; turn < 8; turn++) {
            Set<Integer> turned = new HashSet<>();
            for (int pattern : places[place].list) {
                turned.add(turned(pattern, turn));
            }
            if (turned.equals(new HashSet<>(places[other].list))) {
                return turn;
            }
        }
        return -2;
    }

    int turnedClass(int place, int turn, int to) {
        if (!place(place) || turn < 0 || turn > 7 || !place(to)) {
            return -1;
        }
        Told told = places[place];
        if (told == null || told.kind > 1) {
            return told == null ? -11 : -12;
        }
        List<Integer> list = new ArrayList<>();
        for (int pattern : told.list) {
            list.add(turned(pattern, turn));
        }
        places[to] = new Told(0, list);
        return list.size();
    }

    // ---- numbers

    int mean(int pattern, int n, int which) {
        if (!is(pattern) || pattern == 0 || n < 0 || n > 9 || row(pattern).length > n
                || which < 0 || which > 1) {
            return -1;
        }
        int k = row(pattern).length;
        long upper = 1;
        long lower = 1;
        for (int i = 1; i <= k; i++) {
            upper *= n + 1 - i;
            lower *= (long) i * i;
        }
        for (int d = 2; d <= lower; d++) {
            while (upper % d == 0 && lower % d == 0) {
                upper /= d;
                lower /= d;
            }
        }
        return (int) (which == 0 ? upper : lower);
    }

    private static int timesFast(int[] row, int[] pattern, int t, int[] taken, int from) {
        if (t == pattern.length) {
            return 1;
        }
        int found = 0;
        for (int p = from; p < row.length; p++) {
            boolean fits = true;
            for (int s = 0; s < t && fits; s++) {
                fits = (taken[s] < row[p]) == (pattern[s] < pattern[t]);
            }
            if (fits) {
                taken[t] = row[p];
                found += timesFast(row, pattern, t + 1, taken, p + 1);
            }
        }
        return found;
    }

    int all(int place, int n, int pattern) {
        if (!place(place) || n < 0 || n > 7 || !is(pattern)) {
            return -1;
        }
        if (places[place] == null) {
            return -11;
        }
        int found = 0;
        for (int order : members(places[place], n)) {
            found += timesFast(row(order), row(pattern), 0, new int[10], 0);
        }
        return found;
    }

    int most(int pattern, int n) {
        if (!is(pattern) || n < 0 || n > 7) {
            return -1;
        }
        int most = 0;
        for (int order : orders(n)) {
            most = Math.max(most, timesFast(row(order), row(pattern), 0, new int[10], 0));
        }
        return most;
    }

    int packed(int pattern, int n) {
        int most = most(pattern, n);
        if (most < 0) {
            return -1;
        }
        for (int order : orders(n)) {
            if (timesFast(row(order), row(pattern), 0, new int[10], 0) == most) {
                return order;
            }
        }
        throw new IllegalStateException("none has the most");
    }

    int merges(int order, int a, int b) {
        if (!is(order) || !is(a) || !is(b)) {
            return -1;
        }
        if (row(a).length + row(b).length != row(order).length) {
            return -2;
        }
        int found = 0;
        for (int first : placesOf(order, a)) {
            found += standing(chosen(row(order), ~first)) == b ? 1 : 0;
        }
        return found;
    }

    int rows(int order, boolean falling) {
        if (!is(order)) {
            return -1;
        }
        int fewest = 0;
        while (!parted(row(order), 0, new int[fewest], falling)) {
            fewest++;
        }
        return fewest;
    }

    private static boolean parted(int[] row, int i, int[] lasts, boolean falling) {
        if (i == row.length) {
            return true;
        }
        for (int r = 0; r < lasts.length; r++) {
            int last = lasts[r];
            if (last == 0 || (falling ? row[i] < last : row[i] > last)) {
                lasts[r] = row[i];
                if (parted(row, i + 1, lasts, falling)) {
                    return true;
                }
                lasts[r] = last;
            }
        }
        return false;
    }

    // ---- shelves: null, a Told, a byte[] or an int[]

    private final Object[] shelves = new Object[6];

    private static boolean shelf(int d) {
        return d >= 0 && d < 6;
    }

    int keep(int d, int what, int place, int k) {
        if (!shelf(d)) {
            return -1;
        }
        switch (what) {
            case 0 -> shelves[d] = null;
            case 1, 4 -> {
                if (!place(place)) {
                    return -1;
                }
                if (places[place] == null) {
                    return -11;
                }
                int[] counts = new int[7];
                for (int n = 0; n < 7 && what == 4; n++) {
                    counts[n] = count(place, n);
                }
                shelves[d] = what == 1 ? places[place] : counts;
            }
            case 3 -> {
                if (!is(k)) {
                    return -1;
                }
                int[] row = row(k);
                byte[] bytes = new byte[row.length];
                for (int i = 0; i < row.length; i++) {
                    bytes[i] = (byte) row[i];
                }
                shelves[d] = bytes;
            }
            default -> {
                return -1;
            }
        }
        return 0;
    }

    int row(int d, int what, int n) {
        if (!shelf(d) || what != 3 && what != 4 || n > 60) {
            return -1;
        }
        if (n < 0) {
            return -14;
        }
        shelves[d] = what == 3 ? new byte[n] : new int[n];
        return 0;
    }

    long element(int d, int i) {
        if (!shelf(d)) {
            throw new IllegalArgumentException();
        }
        if (shelves[d] instanceof byte[] bytes && i >= 0 && i < bytes.length) {
            return bytes[i];
        }
        if (shelves[d] instanceof int[] ints && i >= 0 && i < ints.length) {
            return ints[i];
        }
        throw new IllegalStateException();
    }

    int copy(int d, int i, int e, int j, int n) {
        if (!shelf(d) || !shelf(e)) {
            return -1;
        }
        Object from = shelves[d];
        Object to = shelves[e];
        if (from == null || to == null) {
            return -11;
        }
        if (from instanceof Told || to instanceof Told || from.getClass() != to.getClass()) {
            return -12;
        }
        try {
            System.arraycopy(from, i, to, j, n);
        } catch (IndexOutOfBoundsException beyond) {
            return -13;
        }
        return n;
    }

    int read(int d) {
        if (!shelf(d)) {
            return -1;
        }
        if (shelves[d] == null) {
            return -11;
        }
        if (!(shelves[d] instanceof byte[] bytes)) {
            return -12;
        }
        if (bytes.length > 9) {
            return -13;
        }
        int[] numbers = new int[bytes.length];
        Set<Byte> seen = new HashSet<>();
        for (int i = 0; i < bytes.length; i++) {
            numbers[i] = bytes[i];
            if (!seen.add(bytes[i])) {
                return -2;
            }
        }
        return standing(numbers);
    }

    int weight(int d) {
        if (!shelf(d)) {
            return -1;
        }
        if (!(shelves[d] instanceof Told told)) {
            return shelves[d] == null ? -11 : -12;
        }
        return switch (told.kind) {
            case 0 -> 10 + told.many();
            case 1 -> 20 + 2 * told.many();
            case 2 -> 100 + told.many();
            default -> 1100 + told.many();
        };
    }

    int toss(int d) {
        if (!shelf(d)) {
            return -1;
        }
        if (!(shelves[d] instanceof Told told)) {
            return shelves[d] == null ? -11 : -12;
        }
        return told.kind > 1 ? told.many() : -15;
    }
}
