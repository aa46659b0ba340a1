import java.math.BigInteger;
import java.util.ArrayList;
import java.util.HashSet;
import java.util.List;
import java.util.Set;
import java.util.TreeSet;
import java.util.regex.Pattern;

/**
 * The document once more, slowly and by other means than the program's: texts by a pattern, quantities by sets in
 * big integers, rows by search.
 */
final class Model {
    private static final Pattern TEXT = Pattern.compile("[nlf][01][0-9]{6}(;[nlf][01][0-9]{6}){0,9}");

    private final List<List<Integer>> rows = new ArrayList<>();
    private final int[] lanes = new int[4];
    private List<String> people = List.of();
    private int trace = 0;
    private int fault = 0;

    Model() {
        for (int k = 0; k < 4; k++) {
            rows.add(null);
        }
    }

    private static boolean in(int v, int low, int high) {
        return v >= low && v <= high;
    }

    private int faulted(int number) {
        fault = number;
        return -10 - number;
    }

    // ---- the roll

    private static boolean isText(String text) {
        if (!TEXT.matcher(text).matches()) {
            return false;
        }
        for (String one : text.split(";")) {
            int number = Integer.parseInt(one.substring(2, 4));
            int from = Integer.parseInt(one.substring(4, 6));
            int till = Integer.parseInt(one.substring(6, 8));
            if (number == 0 || from > 98 || till <= from) {
                return false;
            }
        }
        return true;
    }

    /** Some text that begins so is sought among those that end as soon as they can. */
    private static boolean goesOn(String start) {
        String rest = "n0010099".substring(start.length() % 9 == 8 ? 8 : start.length() % 9);
        if (isText(start) || isText(start + rest)) {
            return true;
        }
        for (char digit = '0'; digit <= '9' && !rest.isEmpty(); digit++) {
            if (isText(start + digit + rest.substring(1))) {
                return true;
            }
        }
        return false;
    }

    private static int firstFault(String text) {
        for (int end = 1; end <= text.length(); end++) {
            if (!goesOn(text.substring(0, end))) {
                int place = end - 1;
                boolean second = Set.of(3, 5, 7).contains(place % 9);
                return second && in(text.charAt(place), '0', '9') ? place - 1 : place;
            }
        }
        return text.length();
    }

    int roll(int sheet, int lane, int i, int n) {
        int refused = cellsRefused(0, sheet, true, lane, i, n);
        if (refused != 0) {
            return refused;
        }
        StringBuilder text = new StringBuilder();
        for (int v : rows.get(sheet).subList(i, i + n)) {
            text.append(in(v, 0, 255) ? (char) v : '?');
        }
        if (!isText(text.toString())) {
            return -100 - firstFault(text.toString());
        }
        people = List.of(text.toString().split(";"));
        return people.size();
    }

    private boolean isOne(int x) {
        return in(x, 0, people.size() - 1);
    }

    private int part(int x, int what) {
        String one = people.get(x);
        if (what == 0) {
            return "nlf".indexOf(one.charAt(0));
        }
        return what == 1 ? one.charAt(1) - '0' : Integer.parseInt(one.substring(2 * what - 2, 2 * what));
    }

    int ofOne(int x, int what) {
        return !isOne(x) ? -1 : !in(what, 0, 4) ? -2 : part(x, what);
    }

    private boolean isHeard(int x, int village, int day) {
        int end = part(x, 4) + (part(x, 0) == 0 ? 0 : 10);
        return (part(x, 0) == 2 || part(x, 1) == village) && in(day, part(x, 3), end - 1);
    }

    int lives(int x, int village, int day) {
        return !isOne(x) || !in(village, 0, 1) ? -1 : !in(day, 0, 109) ? -2 : isHeard(x, village, day) ? 1 : 0;
    }

    int word(int number, int village, int day) {
        if (!in(village, 0, 1)) {
            return -1;
        }
        if (!in(number, 1, 99) || !in(day, 0, 109)) {
            return -2;
        }
        for (int x = 0; x < people.size(); x++) {
            if (part(x, 2) == number && isHeard(x, village, day)) {
                return x;
            }
        }
        return -9;
    }

    private List<Integer> numbers(int village, int day, int leftOut) {
        TreeSet<Integer> numbers = new TreeSet<>();
        for (int x = 0; x < people.size(); x++) {
            if (x != leftOut && isHeard(x, village, day)) {
                numbers.add(part(x, 2));
            }
        }
        return new ArrayList<>(numbers);
    }

    int sayable(int village, int day, int k) {
        if (!in(village, 0, 1) || k < -1) {
            return -1;
        }
        if (!in(day, 0, 109)) {
            return -2;
        }
        return kth(numbers(village, day, -1), k);
    }

    private static int kth(List<Integer> row, int k) {
        return k == -1 ? row.size() : k < row.size() ? row.get(k) : -9;
    }

    // ---- what can be said

    private static BigInteger within(List<Integer> numbers, int words) {
        BigInteger mask = BigInteger.ONE.shiftLeft(1000).subtract(BigInteger.ONE);
        BigInteger said = BigInteger.ONE;
        for (int word = 0; word < words; word++) {
            BigInteger next = said;
            for (int number : numbers) {
                next = next.or(said.shiftLeft(number));
            }
            next = next.and(mask);
            if (next.equals(said)) {
                return said;
            }
            said = next;
        }
        return said;
    }

    /** The row told falling, null where there is none. */
    private static List<Integer> said(int quantity, List<Integer> rising) {
        List<BigInteger> layers = new ArrayList<>();
        layers.add(BigInteger.ONE);
        while (!layers.get(layers.size() - 1).testBit(quantity)) {
            BigInteger last = layers.get(layers.size() - 1);
            BigInteger next = last;
            for (int number : rising) {
                next = next.or(last.shiftLeft(number));
            }
            next = next.and(BigInteger.ONE.shiftLeft(quantity + 1).subtract(BigInteger.ONE));
            if (next.equals(last)) {
                return null;
            }
            layers.add(next);
        }
        List<Integer> row = new ArrayList<>();
        return search(quantity, layers.size() - 1, rising, rising.size() - 1, row, new HashSet<>()) ? row : null;
    }

    /** The greatest row of just so many numbers, none above the one at the given place. */
    private static boolean search(int rest, int words, List<Integer> rising, int top, List<Integer> row,
            Set<List<Integer>> failed) {
        if (words == 0) {
            return rest == 0;
        }
        if (!failed.add(List.of(rest, words, top))) {
            return false;
        }
        for (int at = top; at >= 0; at--) {
            if (rising.get(at) <= rest) {
                row.add(rising.get(at));
                if (search(rest - rising.get(at), words - 1, rising, at, row, failed)) {
                    return true;
                }
                row.remove(row.size() - 1);
            }
        }
        return false;
    }

    int say(int quantity, int village, int day, int k) {
        if (!in(village, 0, 1) || k < -1) {
            return -1;
        }
        if (!in(quantity, 0, 999) || !in(day, 0, 109)) {
            return -2;
        }
        List<Integer> row = said(quantity, numbers(village, day, -1));
        return row == null ? -9 : kth(row, k);
    }

    // ---- rows

    private int cellsRefused(int village, int sheet, boolean inside, int lane, int i, int n) {
        fault = 0;
        if (!in(village, 0, 1) || !in(sheet, 0, 3)) {
            return -1;
        }
        if (!inside || !in(lane, 0, 2)) {
            return -2;
        }
        List<Integer> row = rows.get(sheet);
        if (row != null && lanes[sheet] != lane) {
            return faulted(2);
        }
        if (row == null) {
            return faulted(1);
        }
        if (n < 0) {
            return faulted(4);
        }
        return i < 0 || (long) i + n > row.size() ? faulted(3) : 0;
    }

    private int rowRefused(int village, int sheet, boolean inside, int lane, int i, int n) {
        int refused = cellsRefused(village, sheet, inside, lane, i, n);
        if (refused != 0) {
            return refused;
        }
        if (n > 20) {
            return -2;
        }
        return rows.get(sheet).subList(i, i + n).stream().allMatch(this::isOne) ? 0 : -1;
    }

    private int meant(List<Integer> row, int village, int day) {
        for (int place = 0; place < row.size(); place++) {
            if (!isHeard(row.get(place), village, day)) {
                return -100 - place;
            }
        }
        return row.stream().mapToInt(x -> part(x, 2)).sum();
    }

    int means(int village, int day, int sheet, int lane, int i, int n) {
        int refused = rowRefused(village, sheet, in(day, 0, 109), lane, i, n);
        return refused != 0 ? refused : meant(rows.get(sheet).subList(i, i + n), village, day);
    }

    int turned(int village, int day, int other, int sheet, int lane, int i, int n) {
        int refused = rowRefused(village, sheet, in(day, 0, 109) && in(other, 0, 109), lane, i, n);
        if (refused != 0) {
            return refused;
        }
        int quantity = meant(rows.get(sheet).subList(i, i + n), village, day);
        return in(quantity, 0, 999) ? say(quantity, village, other, -1) : -9;
    }

    int child(int village, int day, int w, int sheet, int lane, int i, int n, int what) {
        boolean inside = in(day, 0, 109) && in(w, 1, 9) && in(what, 0, 1);
        int refused = cellsRefused(village, sheet, inside, lane, i, n);
        if (refused != 0) {
            return refused;
        }
        List<Integer> bargains = rows.get(sheet).subList(i, i + n);
        if (n > 12 || !bargains.stream().allMatch(v -> in(v, 0, 999))) {
            return -2;
        }
        int[] best = {0, -1};
        for (int number = 1; number <= 99; number++) {
            List<Integer> numbers = numbers(village, day, -1);
            numbers.add(number);
            BigInteger said = within(numbers, w);
            int count = (int) bargains.stream().filter(said::testBit).count();
            if (count > best[1]) {
                best = new int[] {number, count};
            }
        }
        return best[what];
    }

    int both(int q, int w, int day) {
        if (!in(q, 0, 999) || !in(w, 1, 9) || !in(day, 0, 109)) {
            return -2;
        }
        BigInteger said = within(numbers(0, day, -1), w).and(within(numbers(1, day, -1), w)).shiftRight(q);
        return said.signum() == 0 ? -9 : q + said.getLowestSetBit();
    }

    int written(int village, int sheet, int lane, int i, int n, int what) {
        int refused = rowRefused(village, sheet, in(what, 0, 2), lane, i, n);
        if (refused != 0) {
            return refused;
        }
        List<Integer> row = rows.get(sheet).subList(i, i + n);
        TreeSet<Integer> days = new TreeSet<>();
        for (int day = 0; day < 110; day++) {
            int on = day;
            if (row.stream().allMatch(x -> isHeard(x, village, on))) {
                days.add(day);
            }
        }
        return what == 0 ? days.size() : days.isEmpty() ? -9 : what == 1 ? days.first() : days.last();
    }

    int lost(int x, int village, int day, int w) {
        if (!isOne(x) || !in(village, 0, 1)) {
            return -1;
        }
        if (!in(day, 0, 109) || !in(w, 1, 9)) {
            return -2;
        }
        BigInteger gone = within(numbers(village, day, -1), w).andNot(within(numbers(village, day, x), w));
        return gone.and(BigInteger.ONE.shiftLeft(100).subtract(BigInteger.TWO)).bitCount();
    }

    int back(int quantity, int village, int day, int w, int k) {
        if (!in(village, 0, 1) || !in(k, -1, 2)) {
            return -1;
        }
        if (!in(quantity, 0, 999) || !in(day, 0, 109) || !in(w, 1, 9)) {
            return -2;
        }
        List<Integer> best = null;
        for (int set = 0; set < 1 << people.size(); set++) {
            List<Integer> row = new ArrayList<>();
            List<Integer> numbers = numbers(village, day, -1);
            for (int x = 0; x < people.size(); x++) {
                if ((set >> x & 1) == 1 && !isHeard(x, village, day)) {
                    row.add(x);
                    numbers.add(part(x, 2));
                }
            }
            boolean whole = row.size() == Integer.bitCount(set) && row.size() <= 3;
            if (whole && (best == null || isAhead(row, best)) && within(numbers, w).testBit(quantity)) {
                best = row;
            }
        }
        return best == null ? -9 : kth(best, k);
    }

    private static boolean isAhead(List<Integer> row, List<Integer> other) {
        if (row.size() != other.size()) {
            return row.size() < other.size();
        }
        for (int at = 0; at < row.size(); at++) {
            if (!row.get(at).equals(other.get(at))) {
                return row.get(at) < other.get(at);
            }
        }
        return false;
    }

    long told(int village, int day, int w, int which) {
        if (!in(village, 0, 1) || !in(day, 0, 109) || !in(w, 1, 9) || !in(which, 0, 1)) {
            return Long.MIN_VALUE;
        }
        BigInteger all = BigInteger.ONE.shiftLeft(100).subtract(BigInteger.TWO);
        BigInteger count = BigInteger.valueOf(within(numbers(village, day, -1), w).and(all).bitCount());
        BigInteger of = BigInteger.valueOf(99);
        return (which == 0 ? count : of).divide(count.gcd(of)).longValueExact();
    }

    // ---- sheets

    int sheet(int k, int lane, int n) {
        fault = 0;
        if (!in(k, 0, 3)) {
            return -1;
        }
        if (!in(lane, 0, 2) || n > 100) {
            return -2;
        }
        if (n < 0) {
            return faulted(4);
        }
        rows.set(k, new ArrayList<>(java.util.Collections.nCopies(n, 0)));
        lanes[k] = lane;
        return 1;
    }

    int lose(int k) {
        return !in(k, 0, 3) ? -1 : rows.set(k, null) == null ? 0 : 1;
    }

    int put(int k, int i, int v) {
        fault = 0;
        if (!in(k, 0, 3)) {
            return -1;
        }
        if (rows.get(k) == null) {
            return faulted(1);
        }
        if (!in(i, 0, rows.get(k).size() - 1)) {
            return faulted(3);
        }
        int bits = new int[] {24, 16, 0}[lanes[k]];
        rows.get(k).set(i, v << bits >> bits);
        return 1;
    }

    long cell(int k, int i, int lane) {
        fault = 0;
        if (!in(k, 0, 3) || !in(lane, 0, 2)) {
            return Long.MIN_VALUE;
        }
        List<Integer> row = rows.get(k);
        if (row == null) {
            fault = 1;
        } else if (lanes[k] != lane) {
            fault = 2;
        } else if (!in(i, 0, row.size() - 1)) {
            fault = 3;
        }
        return fault == 0 ? row.get(i) : Long.MIN_VALUE;
    }

    int copy(int k, int i, int other, int j, int n) {
        fault = 0;
        if (!in(k, 0, 3) || !in(other, 0, 3)) {
            return -1;
        }
        List<Integer> from = rows.get(k);
        List<Integer> to = rows.get(other);
        if (from == null || to == null) {
            return faulted(1);
        }
        if (lanes[k] != lanes[other]) {
            return faulted(2);
        }
        if (i < 0 || j < 0 || n < 0 || (long) i + n > from.size() || (long) j + n > to.size()) {
            return faulted(3);
        }
        List<Integer> cells = new ArrayList<>(from.subList(i, i + n));
        for (int at = 0; at < n; at++) {
            to.set(j + at, cells.get(at));
        }
        return n;
    }

    // ---- bodies

    private void leave(int... bodies) {
        for (int body : bodies) {
            trace = 31 * trace + body;
        }
    }

    int tell(int x) {
        if (!isOne(x)) {
            return -1;
        }
        int number = part(x, 2);
        switch (part(x, 0)) {
            case 0:
                leave(1);
                return number;
            case 1:
                leave(2, 1);
                return number + 100;
            default:
                leave(3, 2, 1, 1);
                return 2 * number + 100;
        }
    }

    int mourn(int x) {
        if (!isOne(x)) {
            return -1;
        }
        leave(part(x, 0) == 2 ? 5 : 4);
        return part(x, 0) == 2 ? 80 : x;
    }

    int as(int x, int kind) {
        fault = 0;
        if (!isOne(x)) {
            return -1;
        }
        return !in(kind, 0, 2) ? -2 : part(x, 0) >= kind ? 1 : faulted(2);
    }

    int trace() {
        return trace;
    }

    int fault() {
        return fault;
    }

    int many() {
        return people.size();
    }
}
