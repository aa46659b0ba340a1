import java.math.BigInteger;
import java.util.ArrayList;
import java.util.List;

/** Promises 16 to 20 at their boundaries, sentence by sentence. */
public final class EdgeSheetTests {
    private static final Check check = new Check("EdgeSheetTests");
    private static final long LOST = LivingNumbers.LOST;
    private static final int[] BITS = {8, 16, 32};

    public static void main(String[] args) {
        rowsOfAllSizes();
        aNewRow();
        whatHasNothing();
        everyCell();
        onlyThatCell();
        cutToALane();
        takenAsALane();
        copiesOfAllLengths();
        copiesBetweenAllSheets();
        copiesWithinASheet();
        copiesFromRowsWithNoCells();
        check.close();
    }

    // ---- promise 16

    /** "a row of 0 .. 100 numbers (0 at first) of a LANE". */
    private static void rowsOfAllSizes() {
        for (int n = 0; n <= 100; n++) {
            int k = n % 4;
            int lane = n % 3;
            LivingNumbers x = new LivingNumbers();
            check.due("promise 16: a row of " + n, x.sheet(k, lane, n), 1);
            check.due("promise 16: its fault", x.fault(), 0);
            check.same("promise 16: its cells", State.of(x).sheets().get(k), State.row(lane, new int[n]));
            check.due("promise 18: just beyond it", x.put(k, n, 1), Check.INDEX);
            check.due("promise 19: just beyond it", x.cell(k, n, lane), LOST);
            check.due("promise 25: fault", x.fault(), 3);
        }
    }

    /** A new row takes the place of the older one, whatever it had. */
    private static void aNewRow() {
        int[][] rows = {{0, 100}, {2, 5}, {1, 0}, {1, 3}, {0, 3}, {2, 100}, {2, 1}};
        LivingNumbers x = Standing.made();
        for (int[] row : rows) {
            check.due("promise 16: " + row[1] + " cells of lane " + row[0], x.sheet(1, row[0], row[1]), 1);
            for (int i = 0; i < row[1]; i++) {
                check.due("promise 16: cell " + i, x.cell(1, i, row[0]), 0);
            }
            if (row[1] > 0) {
                x.put(1, row[1] - 1, 9);
                x.put(1, 0, 9);
            }
        }
        List<String> due = new ArrayList<>(Standing.STATE.sheets());
        due.set(1, State.row(2, 9));
        check.same("promise 16: the other sheets", State.of(x), new State(Standing.STATE.people(), due,
            Standing.STATE.trace()));
    }

    // ---- promise 17

    /** "1; 0: it had nothing". */
    private static void whatHasNothing() {
        for (int k = 0; k < 4; k++) {
            LivingNumbers x = Standing.made();
            List<String> due = new ArrayList<>(Standing.STATE.sheets());
            due.set(k, "nothing");
            check.due("promise 17: sheet " + k, x.lose(k), k == 3 ? 0 : 1);
            check.due("promise 17: again", x.lose(k), 0);
            check.same("promise 17: only that sheet", State.of(x), new State(Standing.STATE.people(), due,
                Standing.STATE.trace()));
            for (int lane = 0; lane < 3; lane++) {
                x.sheet(k, lane, 0);
                check.due("promise 17: an empty row is something", x.lose(k), 1);
                check.due("promise 17: it was lost", x.lose(k), 0);
            }
            x.sheet(k, 0, 2);
            check.due("promise 17: a row made behind it", x.cell(k, 1, 0), 0);
        }
    }

    // ---- promises 18 and 19

    /** The first and the last cell of each SHEET, and none ahead of them or behind. */
    private static void everyCell() {
        for (int k = 0; k < 4; k++) {
            LivingNumbers x = new LivingNumbers();
            x.sheet(k, 2, 100);
            for (int i = 0; i < 100; i++) {
                check.due("promise 18: cell " + i, x.put(k, i, i * i), 1);
            }
            for (int i = 0; i < 100; i++) {
                check.due("promise 19: cell " + i, x.cell(k, i, 2), i * i);
            }
            for (int i : new int[] {-1, 100, 101, 200, -100, Check.LEAST, Check.MOST}) {
                check.due("promise 18: cell " + i, x.put(k, i, 1), Check.INDEX);
                check.due("promise 19: cell " + i, x.cell(k, i, 2), LOST);
                check.due("promise 19: its fault", x.fault(), 3);
            }
        }
    }

    private static void onlyThatCell() {
        for (int k = 0; k < 4; k++) {
            for (int at = 0; at < 3; at++) {
                LivingNumbers x = new LivingNumbers();
                List<String> due = new ArrayList<>();
                for (int sheet = 0; sheet < 4; sheet++) {
                    Check.fill(x, sheet, 2, 7, 8, 9);
                    due.add(State.row(2, 7, 8, 9));
                }
                int[] cells = {7, 8, 9};
                cells[at] = Check.LEAST;
                due.set(k, State.row(2, cells));
                check.due("promise 18: cell " + at + " of " + k, x.put(k, at, Check.LEAST), 1);
                check.same("promise 18: only cell " + at + " of " + k, State.of(x).sheets(), due);
            }
        }
    }

    /** "what comes to a cell of it is cut to its LANE (with its sign)": both ends of each LANE, and beyond. */
    private static void cutToALane() {
        int[] values = {0, 1, -1, 127, 128, 129, -128, -129, 255, 256, 257, -255, -256, -257, 32767, 32768, 32769,
            -32768, -32769, 65535, 65536, 65537, -65535, -65536, -65537, 8388608, 70001, Check.MOST, Check.MOST - 1,
            Check.LEAST, Check.LEAST + 1};
        for (int lane = 0; lane < 3; lane++) {
            LivingNumbers x = new LivingNumbers();
            x.sheet(1, lane, 3);
            for (int v : values) {
                check.due("promise 18: " + v + " in lane " + lane, x.put(1, 1, v), 1);
                check.due("promise 19: " + v + " in lane " + lane, x.cell(1, 1, lane), cut(v, BITS[lane]));
                check.due("promise 19: the cell ahead", x.cell(1, 0, lane), 0);
                check.due("promise 19: the cell behind", x.cell(1, 2, lane), 0);
            }
        }
    }

    private static long cut(int v, int bits) {
        BigInteger all = BigInteger.ONE.shiftLeft(bits);
        BigInteger low = BigInteger.valueOf(v).mod(all);
        return (low.testBit(bits - 1) ? low.subtract(all) : low).longValueExact();
    }

    /** "taken as a row of a LANE": CAST for each other one, whatever the cell; nothing is no CAST. */
    private static void takenAsALane() {
        LivingNumbers x = new LivingNumbers();
        for (int lane = 0; lane < 3; lane++) {
            x.sheet(0, lane, 1);
            x.put(0, 0, 5);
            for (int as = 0; as < 3; as++) {
                check.due("promise 19: lane " + lane + " as " + as, x.cell(0, 0, as), as == lane ? 5 : LOST);
                check.due("promise 19: its fault", x.fault(), as == lane ? 0 : 2);
                check.due("promise 19: beyond it, as " + as, x.cell(0, 1, as), LOST);
                check.due("promise 19: its fault", x.fault(), as == lane ? 3 : 2);
            }
            x.lose(0);
            for (int as = 0; as < 3; as++) {
                check.due("promise 19: nothing as " + as, x.cell(0, 0, as), LOST);
                check.due("promise 19: its fault", x.fault(), 1);
            }
        }
    }

    // ---- promise 20

    private static int[] from(int first, int n) {
        int[] cells = new int[n];
        for (int i = 0; i < n; i++) {
            cells[i] = first + i;
        }
        return cells;
    }

    /** "INDEX: i, j, n below 0 or beyond", and just inside: all of -2 to 6 in rows of four cells and of three. */
    private static void copiesOfAllLengths() {
        for (int i = -2; i <= 6; i++) {
            for (int j = -2; j <= 6; j++) {
                for (int n = -2; n <= 6; n++) {
                    LivingNumbers x = new LivingNumbers();
                    Check.fill(x, 2, 1, from(10, 4));
                    Check.fill(x, 0, 1, from(20, 3));
                    boolean isIn = i >= 0 && j >= 0 && n >= 0 && i + n <= 4 && j + n <= 3;
                    String what = "promise 20: " + n + " cells from " + i + " to " + j;
                    check.due(what, x.copy(2, i, 0, j, n), isIn ? n : Check.INDEX);
                    check.due(what + ": fault", x.fault(), isIn ? 0 : 3);
                    int[] due = from(20, 3);
                    for (int at = 0; isIn && at < n; at++) {
                        due[j + at] = 10 + i + at;
                    }
                    check.same(what + ": sheet 0", State.of(x).sheets().get(0), State.row(1, due));
                    check.same(what + ": sheet 2", State.of(x).sheets().get(2), State.row(1, from(10, 4)));
                }
            }
        }
    }

    /** From each SHEET to each, in each LANE: full rows. */
    private static void copiesBetweenAllSheets() {
        for (int k = 0; k < 4; k++) {
            for (int other = 0; other < 4; other++) {
                int lane = (k + other) % 3;
                LivingNumbers x = new LivingNumbers();
                x.sheet(other, lane, 100);
                Check.fill(x, k, lane, from(-50, 100));
                check.due("promise 20: all of " + k + " to " + other, x.copy(k, 0, other, 0, 100), 100);
                check.due("promise 20: one more", x.copy(k, 0, other, 0, 101), Check.INDEX);
                check.due("promise 20: none at their ends", x.copy(k, 100, other, 100, 0), 0);
                check.due("promise 20: none beyond", x.copy(k, 101, other, 100, 0), Check.INDEX);
                check.due("promise 20: none beyond the other", x.copy(k, 100, other, 101, 0), Check.INDEX);
                check.same("promise 20: " + other, State.of(x).sheets().get(other), State.row(lane, from(-50, 100)));
            }
        }
    }

    /** "another one (perhaps the same)", "as they were": cells that lie on one another, forth and back. */
    private static void copiesWithinASheet() {
        for (int i = 0; i <= 6; i++) {
            for (int j = 0; j <= 6; j++) {
                for (int n = 0; n <= 6 - Math.max(i, j); n++) {
                    LivingNumbers x = new LivingNumbers();
                    Check.fill(x, 3, 0, from(1, 6));
                    int[] due = from(1, 6);
                    for (int at = 0; at < n; at++) {
                        due[j + at] = 1 + i + at;
                    }
                    String what = "promise 20: " + n + " cells of one sheet from " + i + " to " + j;
                    check.due(what, x.copy(3, i, 3, j, n), n);
                    check.same(what + ": its cells", State.of(x).sheets().get(3), State.row(0, due));
                }
            }
        }
    }

    private static void copiesFromRowsWithNoCells() {
        LivingNumbers x = new LivingNumbers();
        x.sheet(0, 0, 0);
        x.sheet(1, 0, 0);
        check.due("promise 20: none of none", x.copy(0, 0, 1, 0, 0), 0);
        check.due("promise 20: its fault", x.fault(), 0);
        check.due("promise 20: one of none", x.copy(0, 0, 1, 0, 1), Check.INDEX);
        check.due("promise 20: behind none", x.copy(0, 1, 1, 0, 0), Check.INDEX);
        x.sheet(1, 2, 0);
        check.due("promise 20: unlike LANES of no cells", x.copy(0, 0, 1, 0, 0), Check.CAST);
        x.lose(1);
        check.due("promise 20: the other has nothing", x.copy(0, 0, 1, 0, 0), Check.NULL);
        check.due("promise 20: the first has nothing", x.copy(1, 0, 0, 0, 0), Check.NULL);
        check.due("promise 20: nothing to itself", x.copy(1, 0, 1, 0, 0), Check.NULL);
        check.due("promise 20: its fault", x.fault(), 1);
    }
}
