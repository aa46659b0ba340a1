import java.util.Arrays;
import java.util.List;
import java.util.function.IntFunction;
import java.util.stream.Collectors;
import java.util.stream.IntStream;

/**
 * All that can be seen of an object but fault(), which the reading changes. It takes a call for each cell and for each
 * part of a ONE: with the calls ahead of it, it must stay within an object's 512.
 */
record State(String people, List<String> sheets, int trace) {
    static State of(LivingNumbers x) {
        return new State(people(x), IntStream.range(0, 4).mapToObj(k -> sheet(x, k)).toList(), x.trace());
    }

    private static String people(LivingNumbers x) {
        int many = x.many();
        IntFunction<String> one = at -> IntStream.range(0, 5).mapToObj(what -> "" + x.ofOne(at, what))
            .collect(Collectors.joining(" "));
        return many + " people: " + IntStream.range(0, many).mapToObj(one).collect(Collectors.joining(", "));
    }

    private static String sheet(LivingNumbers x, int k) {
        for (int lane = 0; lane < 3; lane++) {
            long first = x.cell(k, 0, lane);
            if (x.fault() == 1) {
                return "nothing";
            }
            if (x.fault() != 2) {
                return "lane " + lane + ":" + cells(x, k, lane, first);
            }
        }
        return "of no lane";
    }

    private static String cells(LivingNumbers x, int k, int lane, long first) {
        StringBuilder cells = new StringBuilder();
        long v = first;
        for (int i = 1; i <= 100 && v != LivingNumbers.LOST; i++) {
            cells.append(" ").append(v);
            v = x.cell(k, i, lane);
        }
        return cells.toString();
    }

    /** What a sheet is told as, that has such a row. */
    static String row(int lane, int... cells) {
        return "lane " + lane + ":" + Arrays.stream(cells).mapToObj(v -> " " + v).collect(Collectors.joining());
    }
}
