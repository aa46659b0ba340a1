/** Promises 16 to 20: sheets. */
public final class SheetTests {
    private static final Check check = new Check("SheetTests");

    public static void main(String[] args) {
        sheet();
        sheetRefusals();
        lose();
        put();
        besideTheCells();
        cutToTheLane();
        cell();
        copy();
        copyWithin();
        copyFaults();
        check.close();
    }

    private static void cells(LivingNumbers x, int k, int lane, int... want) {
        for (int i = 0; i < want.length; i++) {
            check.due("cell " + k + " " + i, x.cell(k, i, lane), want[i]);
        }
        check.due("behind the cells", x.cell(k, want.length, lane), LivingNumbers.LOST);
    }

    private static void sheet() {
        for (int k = 0; k < 4; k++) {
            for (int lane = 0; lane < 3; lane++) {
                LivingNumbers x = new LivingNumbers();
                check.due("a row of 100", x.sheet(k, lane, 100), 1);
                check.due("its last cell", x.cell(k, 99, lane), 0);
                check.due("beyond", x.cell(k, 100, lane), LivingNumbers.LOST);
                x.put(k, 99, 5);
                x.put(k, 0, 6);
                check.due("an empty row", x.sheet(k, lane, 0), 1);
                check.due("it is there", x.put(k, 0, 1), Check.INDEX);
                check.due("a new row", x.sheet(k, lane, 100), 1);
                check.due("is of zeros", x.cell(k, 99, lane), 0);
                check.due("is of zeros", x.cell(k, 0, lane), 0);
            }
        }
        LivingNumbers x = new LivingNumbers();
        Check.fill(x, 1, 2, 1, 2, 3);
        Check.fill(x, 2, 2, 4, 5);
        x.sheet(0, 0, 100);
        cells(x, 1, 2, 1, 2, 3);
        cells(x, 2, 2, 4, 5);
    }

    private static void sheetRefusals() {
        LivingNumbers x = new LivingNumbers();
        Check.fill(x, 1, 2, 7);
        for (int out : new int[] {-1, 4, Check.LEAST, Check.MOST}) {
            check.due("SHEET " + out, x.sheet(out, 9, -1), -1);
        }
        for (int out : new int[] {-1, 3, Check.LEAST, Check.MOST}) {
            check.due("lane " + out, x.sheet(1, out, -1), -2);
        }
        check.due("n 101", x.sheet(1, 0, 101), -2);
        check.due("n far above", x.sheet(1, 0, Check.MOST), -2);
        check.due("n -1", x.sheet(1, 0, -1), Check.SIZE);
        check.due("its fault", x.fault(), 4);
        check.due("n far below", x.sheet(1, 0, Check.LEAST), Check.SIZE);
        check.due("refused", x.sheet(1, 3, -1), -2);
        check.due("its fault", x.fault(), 0);
        cells(x, 1, 2, 7);
    }

    private static void lose() {
        LivingNumbers x = new LivingNumbers();
        for (int k = 0; k < 4; k++) {
            check.due("nothing to lose", x.lose(k), 0);
            x.sheet(k, 1, 0);
            check.due("a row to lose", x.lose(k), 1);
            check.due("it is lost", x.cell(k, 0, 1), LivingNumbers.LOST);
            check.due("as nothing", x.fault(), 1);
            check.due("nothing again", x.lose(k), 0);
        }
        for (int out : new int[] {-1, 4, Check.LEAST, Check.MOST}) {
            check.due("SHEET " + out, x.lose(out), -1);
        }
        check.due("lose names no fault", x.fault(), 1);
    }

    private static void put() {
        LivingNumbers x = new LivingNumbers();
        for (int out : new int[] {-1, 4, Check.LEAST, Check.MOST}) {
            check.due("SHEET " + out, x.put(out, -1, 1), -1);
            check.due("fault", x.fault(), 0);
        }
        check.due("NULL ahead of INDEX", x.put(0, -1, 1), Check.NULL);
        check.due("fault", x.fault(), 1);
        x.sheet(0, 2, 3);
        for (int out : new int[] {-1, 3, Check.LEAST, Check.MOST}) {
            check.due("cell " + out, x.put(0, out, 1), Check.INDEX);
            check.due("fault", x.fault(), 3);
        }
        check.due("the first", x.put(0, 0, 4), 1);
        check.due("fault", x.fault(), 0);
        check.due("the last", x.put(0, 2, 5), 1);
        cells(x, 0, 2, 4, 0, 5);
    }

    private static void besideTheCells() {
        LivingNumbers x = new LivingNumbers();
        for (int k = 0; k < 4; k++) {
            x.sheet(k, 2, k == 2 ? 3 : 100);
        }
        for (int k = 0; k < 4; k++) {
            int size = k == 2 ? 3 : 100;
            for (int i : new int[] {-1, -100, -101, size, size + 1, size + 100, Check.LEAST, Check.MOST}) {
                check.due("put " + k + " " + i, x.put(k, i, 7), Check.INDEX);
                cell(x, k, i, 2, 3);
                check.due("copy from " + k + " " + i, x.copy(k, i, k, 0, 1), Check.INDEX);
                check.due("copy to " + k + " " + i, x.copy(k, 0, k, i, 1), Check.INDEX);
            }
        }
        for (int k = 0; k < 4; k++) {
            cells(x, k, 2, new int[k == 2 ? 3 : 100]);
        }
    }

    private static void cutToTheLane() {
        int[] values = {0, 1, -1, 127, 128, 255, 256, -128, -129, 300, 32767, 32768, -32769, 65535, 70001, Check.MOST,
            Check.LEAST};
        LivingNumbers x = new LivingNumbers();
        for (int lane = 0; lane < 3; lane++) {
            x.sheet(lane, lane, 1);
            for (int v : values) {
                x.put(lane, 0, v);
                int cut = lane == 0 ? (byte) v : lane == 1 ? (short) v : v;
                check.due("cut to lane " + lane, x.cell(lane, 0, lane), cut);
            }
        }
    }

    private static void cell(LivingNumbers x, int k, int i, int lane, int fault) {
        check.due("cell " + k + " " + i + " " + lane, x.cell(k, i, lane), LivingNumbers.LOST);
        check.due("its fault", x.fault(), fault);
    }

    private static void cell() {
        LivingNumbers x = new LivingNumbers();
        x.put(0, 0, 0);
        cell(x, -1, -1, 9, 0);
        x.put(0, 0, 0);
        cell(x, 4, 0, 0, 0);
        x.put(0, 0, 0);
        cell(x, 0, -1, -1, 0);
        x.put(0, 0, 0);
        cell(x, 0, -1, 3, 0);
        cell(x, 0, -1, 0, 1);
        x.sheet(0, 1, 2);
        cell(x, 0, -1, 0, 2);
        cell(x, 0, -1, 2, 2);
        cell(x, 0, -1, 1, 3);
        cell(x, 0, 2, 1, 3);
        cell(x, 0, Check.MOST, 1, 3);
        cell(x, 0, Check.LEAST, 1, 3);
        check.due("a cell", x.cell(0, 1, 1), 0);
        check.due("its fault", x.fault(), 0);
    }

    private static void copy() {
        for (int lane = 0; lane < 3; lane++) {
            LivingNumbers x = new LivingNumbers();
            Check.fill(x, 3, lane, 1, 2, 3, 4);
            Check.fill(x, 0, lane, 9, 8, 7);
            check.due("two cells", x.copy(3, 1, 0, 1, 2), 2);
            cells(x, 0, lane, 9, 2, 3);
            cells(x, 3, lane, 1, 2, 3, 4);
            check.due("all", x.copy(0, 0, 3, 0, 3), 3);
            cells(x, 3, lane, 9, 2, 3, 4);
            check.due("one cell", x.copy(3, 3, 0, 2, 1), 1);
            cells(x, 0, lane, 9, 2, 4);
            check.due("none at the ends", x.copy(0, 3, 3, 4, 0), 0);
            check.due("its fault", x.fault(), 0);
        }
    }

    private static void copyWithin() {
        LivingNumbers x = new LivingNumbers();
        Check.fill(x, 1, 2, 1, 2, 3, 4, 5);
        check.due("forth", x.copy(1, 0, 1, 1, 4), 4);
        cells(x, 1, 2, 1, 1, 2, 3, 4);
        check.due("back", x.copy(1, 2, 1, 0, 3), 3);
        cells(x, 1, 2, 2, 3, 4, 3, 4);
        check.due("onto itself", x.copy(1, 0, 1, 0, 5), 5);
        cells(x, 1, 2, 2, 3, 4, 3, 4);
    }

    private static void copy(LivingNumbers x, int want, int k, int i, int other, int j, int n) {
        check.due("copy " + k + " " + i + " " + other + " " + j + " " + n, x.copy(k, i, other, j, n), want);
        check.due("its fault", x.fault(), want <= -11 ? -10 - want : 0);
    }

    private static void copyFaults() {
        LivingNumbers x = new LivingNumbers();
        copy(x, -1, 4, -1, 0, -1, -1);
        copy(x, -1, 0, -1, -1, -1, -1);
        copy(x, -1, Check.LEAST, 0, Check.MOST, 0, 0);
        copy(x, Check.NULL, 0, -1, 1, -1, -1);
        x.sheet(0, 0, 3);
        copy(x, Check.NULL, 0, -1, 1, -1, -1);
        copy(x, Check.NULL, 1, -1, 0, -1, -1);
        x.sheet(1, 1, 3);
        copy(x, Check.CAST, 0, -1, 1, -1, -1);
        Check.fill(x, 1, 0, 1, 2, 3);
        int[][] beyond = {{-1, 0, 0}, {0, -1, 0}, {0, 0, -1}, {4, 0, 0}, {0, 4, 0}, {0, 0, 4}, {1, 0, 3}, {0, 1, 3},
            {3, 0, 1}, {0, 3, 1}, {Check.MOST, 0, 1}, {0, Check.MOST, 1}, {1, 1, Check.MOST}, {0, 0, Check.LEAST},
            {Check.LEAST, 0, 1}, {Check.MOST, Check.MOST, Check.MOST}};
        for (int[] at : beyond) {
            copy(x, Check.INDEX, 1, at[0], 0, at[1], at[2]);
        }
        cells(x, 0, 0, 0, 0, 0);
        cells(x, 1, 0, 1, 2, 3);
    }
}
