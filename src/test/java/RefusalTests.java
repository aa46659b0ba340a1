/**
 * "Terms", REFUSALS and FAULTS, of promises 2 to 23: each refusal and each FAULT of each call, on both sides of each
 * range; of several the first, in the order in which the call's line tells them; what fault() answers behind it; that
 * nothing else has changed; and the last arguments that are taken.
 */
public final class RefusalTests {
    private static final Check check = new Check("RefusalTests");

    private static final int LEAST = Check.LEAST, MOST = Check.MOST;
    private static final int NULL = 1, CAST = 2, INDEX = 3, SIZE = 4;
    private static final boolean ASKS = true, CHANGES = false;

    private static final int[] NO_VILLAGES = {-1, 2, LEAST, MOST};
    private static final int[] NO_SHEETS = {-1, 4, LEAST, MOST};
    private static final int[] NO_LANES = {-1, 3, LEAST, MOST};
    private static final int[] NO_DAYS = {-1, 110, LEAST, MOST};
    private static final int[] NO_ONES = {-1, 3, LEAST, MOST};
    private static final int[] NO_QUANTITIES = {-1, 1000, LEAST, MOST};
    private static final int[] NO_WORDS = {0, 10, -1, LEAST, MOST};

    public static void main(String[] args) {
        roll();
        ofOne();
        lives();
        word();
        sayable();
        means();
        say();
        turned();
        child();
        both();
        written();
        lost();
        back();
        told();
        sheet();
        lose();
        put();
        cell();
        copy();
        tellAndMourn();
        as();
        check.close();
    }

    private static Ladder naming(String name, Ladder.Call call, int... good) {
        return new Ladder(check, name, true, call, good);
    }

    /** Of a call that names no FAULTS: fault() stays. */
    private static Ladder quiet(String name, Ladder.Call call, int... good) {
        return new Ladder(check, name, false, call, good);
    }

    // ---- calls that take cells: where the arguments stand

    private static int[][] casts(int sheet, int lane) {
        return new int[][] {{sheet, 1, lane, 0}, {sheet, 1, lane, 2}, {sheet, 0, lane, 1}, {sheet, 0, lane, 2},
            {sheet, 2, lane, 0}, {sheet, 2, lane, 1}};
    }

    /** Nothing is no CAST, whatever the LANE. */
    private static int[][] nulls(int sheet, int lane) {
        return new int[][] {{sheet, 3}, {sheet, 3, lane, 0}, {sheet, 3, lane, 1}, {sheet, 3, lane, 2}};
    }

    private static int[][] sizes(int n) {
        return new int[][] {{n, -1}, {n, LEAST}};
    }

    private static int[][] indexes(int i, int n, int cells) {
        return new int[][] {{i, -1, n, 0}, {i, cells + 1, n, 0}, {i, 0, n, cells + 1}, {i, 1, n, cells},
            {i, cells, n, 1}, {i, -1, n, 1}, {i, LEAST, n, 0}, {i, MOST, n, 0}, {i, 1, n, MOST}, {i, MOST, n, MOST},
            {i, LEAST, n, MOST}};
    }

    private static int[][] rows(int i, int n) {
        return new int[][] {{i, 0, n, 21}, {i, 0, n, 22}, {i, 0, n, 24}, {i, 3, n, 21}};
    }

    private static int[][] ones(int i, int n) {
        return new int[][] {{i, 22, n, 1}, {i, 23, n, 1}, {i, 3, n, 20}, {i, 4, n, 20}};
    }

    // ---- 1 the roll

    private static void roll() {
        naming("promise 2: roll", (x, a) -> x.roll(a[0], a[1], a[2], a[3]), 0, 0, 0, 26)
            .unknown("SHEET", 0, NO_SHEETS)
            .outside("lane", 1, NO_LANES)
            .faults("CAST", CAST, casts(0, 1))
            .faults("NULL", NULL, nulls(0, 1))
            .faults("SIZE", SIZE, sizes(3))
            .faults("INDEX", INDEX, indexes(2, 3, 26))
            .answers("FIRST FAULT 0", -100, new int[] {2, 1, 3, 1}, new int[] {2, 1, 3, 25}, new int[] {3, 0},
                new int[] {2, 26, 3, 0})
            .answers("FIRST FAULT 25", -125, new int[] {3, 25})
            .takes(ASKS, 3)
            .takes(CHANGES, 1, 3, 8)
            .takes(CHANGES, 1, 2, 18, 3, 8)
            .takes(CHANGES, -100, 0, 1, 1, 1, 2, 24, 3, 0)
            .takes(CHANGES, -100, 0, 2, 1, 2, 2, 0, 3, 15)
            .climb();
    }

    private static void ofOne() {
        quiet("promise 3: ofOne", (x, a) -> x.ofOne(a[0], a[1]), 0, 0)
            .unknown("ONE", 0, NO_ONES)
            .outside("what", 1, -1, 5, LEAST, MOST)
            .takes(ASKS, 0)
            .takes(ASKS, 40, 1, 4)
            .takes(ASKS, 2, 0, 2)
            .takes(ASKS, 40, 0, 2, 1, 4)
            .climb();
    }

    private static void lives() {
        quiet("promise 4: lives", (x, a) -> x.lives(a[0], a[1], a[2]), 0, 0, 20)
            .unknown("ONE", 0, NO_ONES)
            .unknown("VILLAGE", 1, NO_VILLAGES)
            .outside("DAY", 2, NO_DAYS)
            .takes(ASKS, 1)
            .takes(ASKS, 0, 1, 1)
            .takes(ASKS, 1, 0, 2, 1, 1)
            .takes(ASKS, 0, 2, 0)
            .takes(ASKS, 0, 2, 109)
            .climb();
    }

    private static void word() {
        quiet("promise 5: word", (x, a) -> x.word(a[0], a[1], a[2]), 7, 0, 20)
            .unknown("VILLAGE", 1, NO_VILLAGES)
            .outside("NUMBER", 0, 0, 100, -1, LEAST, MOST)
            .outside("DAY", 2, NO_DAYS)
            .takes(ASKS, 0)
            .takes(ASKS, 2, 0, 5, 1, 1)
            .takes(ASKS, -9, 0, 1)
            .takes(ASKS, -9, 0, 99)
            .takes(ASKS, -9, 2, 0)
            .takes(ASKS, -9, 2, 109)
            .climb();
    }

    private static void sayable() {
        quiet("promise 6: sayable", (x, a) -> x.sayable(a[0], a[1], a[2]), 0, 20, 0)
            .unknown("VILLAGE", 0, NO_VILLAGES)
            .unknown("k", 2, -2, LEAST)
            .outside("DAY", 1, NO_DAYS)
            .takes(ASKS, 5)
            .takes(ASKS, 2, 2, -1)
            .takes(ASKS, 2, 0, 1, 2, -1)
            .takes(ASKS, 7, 2, 1)
            .takes(ASKS, -9, 2, 2)
            .takes(ASKS, -9, 2, MOST)
            .takes(ASKS, 0, 1, 0, 2, -1)
            .takes(ASKS, 0, 1, 109, 2, -1)
            .climb();
    }

    // ---- 2 rows of words

    private static void means() {
        naming("promise 7: means", (x, a) -> x.means(a[0], a[1], a[2], a[3], a[4], a[5]), 0, 20, 1, 1, 0, 2)
            .unknown("VILLAGE", 0, NO_VILLAGES)
            .unknown("SHEET", 2, NO_SHEETS)
            .outside("DAY", 1, NO_DAYS)
            .outside("lane", 3, NO_LANES)
            .faults("CAST", CAST, casts(2, 3))
            .faults("NULL", NULL, nulls(2, 3))
            .faults("SIZE", SIZE, sizes(5))
            .faults("INDEX", INDEX, indexes(4, 5, Standing.ROW_CELLS))
            .answers("n above 20", -2, rows(4, 5))
            .answers("a ONE", -1, ones(4, 5))
            .answers("a WORD that does not live", -100, new int[] {1, 19}, new int[] {1, 40}, new int[] {0, 1},
                new int[] {1, 0}, new int[] {1, 109})
            .takes(ASKS, 12)
            .takes(ASKS, 5, 0, 1, 4, 1, 5, 1)
            .takes(ASKS, 138, 5, 20)
            .takes(ASKS, 140, 4, 2, 5, 20)
            .takes(ASKS, 0, 5, 0)
            .takes(ASKS, 0, 4, 24, 5, 0)
            .takes(ASKS, 0, 4, 22, 5, 0, 1, 0)
            .takes(ASKS, 0, 5, 0, 1, 109)
            .takes(ASKS, 0, 2, 0, 3, 0, 4, 26, 5, 0)
            .takes(ASKS, 7, 2, 2, 3, 2, 4, 14, 5, 1)
            .climb();
    }

    private static void turned() {
        naming("promise 9: turned", (x, a) -> x.turned(a[0], a[1], a[2], a[3], a[4], a[5], a[6]),
            0, 20, 39, 1, 1, 0, 2)
            .unknown("VILLAGE", 0, NO_VILLAGES)
            .unknown("SHEET", 3, NO_SHEETS)
            .outside("DAY", 1, NO_DAYS)
            .outside("the other DAY", 2, NO_DAYS)
            .outside("lane", 4, NO_LANES)
            .faults("CAST", CAST, casts(3, 4))
            .faults("NULL", NULL, nulls(3, 4))
            .faults("SIZE", SIZE, sizes(6))
            .faults("INDEX", INDEX, indexes(5, 6, Standing.ROW_CELLS))
            .answers("n above 20", -2, rows(5, 6))
            .answers("a ONE", -1, ones(5, 6))
            .answers("meaning nothing", -9, new int[] {1, 19}, new int[] {1, 40}, new int[] {0, 1})
            .takes(ASKS, 2)
            .takes(ASKS, -9, 2, 50)
            .takes(ASKS, 1, 5, 1, 6, 1, 2, 40)
            .takes(ASKS, 0, 5, 24, 6, 0)
            .takes(ASKS, 0, 6, 0, 1, 0, 2, 109)
            .takes(ASKS, 0, 6, 0, 1, 109, 2, 0)
            .takes(ASKS, 20, 5, 2, 6, 20)
            .climb();
    }

    private static void say() {
        quiet("promise 8: say", (x, a) -> x.say(a[0], a[1], a[2], a[3]), 12, 0, 20, 0)
            .unknown("VILLAGE", 1, NO_VILLAGES)
            .unknown("k", 3, -2, LEAST)
            .outside("QUANTITY", 0, NO_QUANTITIES)
            .outside("DAY", 2, NO_DAYS)
            .takes(ASKS, 7)
            .takes(ASKS, 2, 3, -1)
            .takes(ASKS, 5, 3, 1)
            .takes(ASKS, -9, 3, 2)
            .takes(ASKS, -9, 3, MOST)
            .takes(ASKS, 12, 1, 1)
            .takes(ASKS, 0, 0, 0, 3, -1)
            .takes(ASKS, 143, 0, 999, 3, -1)
            .takes(ASKS, -9, 2, 0)
            .takes(ASKS, -9, 2, 109)
            .climb();
    }

    // ---- 3 children, trade, books

    private static void child() {
        naming("promise 10: child", (x, a) -> x.child(a[0], a[1], a[2], a[3], a[4], a[5], a[6], a[7]),
            0, 20, 1, 2, 2, 3, 2, 0)
            .unknown("VILLAGE", 0, NO_VILLAGES)
            .unknown("SHEET", 3, NO_SHEETS)
            .outside("DAY", 1, NO_DAYS)
            .outside("w", 2, NO_WORDS)
            .outside("what", 7, -1, 2, LEAST, MOST)
            .outside("lane", 4, NO_LANES)
            .faults("CAST", CAST, casts(3, 4))
            .faults("NULL", NULL, nulls(3, 4))
            .faults("SIZE", SIZE, sizes(6))
            .faults("INDEX", INDEX, indexes(5, 6, Standing.BARGAIN_CELLS))
            .answers("n above 12", -2, new int[] {5, 2, 6, 13}, new int[] {5, 0, 6, 13}, new int[] {5, 0, 6, 15})
            .answers("a BARGAIN", -2, new int[] {5, 0, 6, 1}, new int[] {5, 1, 6, 1}, new int[] {5, 1, 6, 12},
                new int[] {5, 0, 6, 12})
            .takes(ASKS, 12)
            .takes(ASKS, 2, 7, 1)
            .takes(ASKS, 11, 5, 2, 6, 12, 7, 1)
            .takes(ASKS, 12, 5, 3, 6, 12, 7, 1)
            .takes(ASKS, 0, 5, 2, 6, 1, 7, 1)
            .takes(ASKS, 1, 5, 15, 6, 0)
            .takes(ASKS, 0, 5, 1, 6, 0, 7, 1)
            .takes(ASKS, 1, 2, 9)
            .takes(ASKS, 1, 0, 1)
            .takes(ASKS, 12, 1, 0)
            .takes(ASKS, 12, 1, 109)
            .takes(ASKS, 2, 2, 9, 1, 0)
            .climb();
    }

    private static void both() {
        quiet("promise 11: both", (x, a) -> x.both(a[0], a[1], a[2]), 1, 9, 20)
            .outside("q", 0, NO_QUANTITIES)
            .outside("w", 1, NO_WORDS)
            .outside("DAY", 2, NO_DAYS)
            .takes(ASKS, 5)
            .takes(ASKS, 0, 0, 0)
            .takes(ASKS, -9, 0, 999)
            .takes(ASKS, 5, 1, 1)
            .takes(ASKS, -9, 2, 0)
            .takes(ASKS, -9, 2, 109)
            .climb();
    }

    private static void written() {
        naming("promise 12: written", (x, a) -> x.written(a[0], a[1], a[2], a[3], a[4], a[5]), 0, 1, 1, 0, 2, 0)
            .unknown("VILLAGE", 0, NO_VILLAGES)
            .unknown("SHEET", 1, NO_SHEETS)
            .outside("what", 5, -1, 3, LEAST, MOST)
            .outside("lane", 2, NO_LANES)
            .faults("CAST", CAST, casts(1, 2))
            .faults("NULL", NULL, nulls(1, 2))
            .faults("SIZE", SIZE, sizes(4))
            .faults("INDEX", INDEX, indexes(3, 4, Standing.ROW_CELLS))
            .answers("n above 20", -2, rows(3, 4))
            .answers("a ONE", -1, ones(3, 4))
            .takes(ASKS, 20)
            .takes(ASKS, 20, 5, 1)
            .takes(ASKS, 39, 5, 2)
            .takes(ASKS, 49, 0, 1, 3, 1, 4, 1, 5, 2)
            .takes(ASKS, 0, 0, 1)
            .takes(ASKS, -9, 0, 1, 5, 1)
            .takes(ASKS, -9, 0, 1, 5, 2)
            .takes(ASKS, 20, 3, 2, 4, 20)
            .takes(ASKS, 110, 3, 24, 4, 0)
            .climb();
    }

    // ---- 4 the dead

    private static void lost() {
        quiet("promise 13: lost", (x, a) -> x.lost(a[0], a[1], a[2], a[3]), 0, 0, 20, 1)
            .unknown("ONE", 0, NO_ONES)
            .unknown("VILLAGE", 1, NO_VILLAGES)
            .outside("DAY", 2, NO_DAYS)
            .outside("w", 3, NO_WORDS)
            .takes(ASKS, 1)
            .takes(ASKS, 1, 0, 2, 1, 1)
            .takes(ASKS, 0, 1, 1)
            .takes(ASKS, 0, 2, 0)
            .takes(ASKS, 0, 2, 109)
            .takes(ASKS, 9, 0, 2, 2, 40, 3, 9)
            .climb();
    }

    private static void back() {
        quiet("promise 14: back", (x, a) -> x.back(a[0], a[1], a[2], a[3], a[4]), 7, 1, 20, 1, 0)
            .unknown("VILLAGE", 1, NO_VILLAGES)
            .unknown("k", 4, -2, 3, LEAST, MOST)
            .outside("QUANTITY", 0, NO_QUANTITIES)
            .outside("DAY", 2, NO_DAYS)
            .outside("w", 3, NO_WORDS)
            .takes(ASKS, 0)
            .takes(ASKS, 1, 4, -1)
            .takes(ASKS, -9, 4, 1)
            .takes(ASKS, -9, 4, 2)
            .takes(ASKS, 1, 0, 12, 1, 0)
            .takes(ASKS, 0, 0, 0, 4, -1)
            .takes(ASKS, -9, 0, 999, 3, 9, 4, -1)
            .takes(ASKS, 2, 0, 19, 2, 0, 3, 2, 4, -1)
            .takes(ASKS, 1, 0, 19, 2, 109, 3, 2, 4, 1)
            .takes(ASKS, -9, 0, 19, 2, 109, 3, 2, 4, 2)
            .climb();
    }

    private static void told() {
        quiet("promise 15: told", (x, a) -> x.told(a[0], a[1], a[2], a[3]), 0, 20, 1, 0)
            .answersLong()
            .unknown("VILLAGE", 0, NO_VILLAGES)
            .outside("DAY", 1, NO_DAYS)
            .outside("w", 2, NO_WORDS)
            .outside("which", 3, -1, 2, LEAST, MOST)
            .takes(ASKS, 2)
            .takes(ASKS, 99, 3, 1)
            .takes(ASKS, 2, 0, 1)
            .takes(ASKS, 0, 1, 0)
            .takes(ASKS, 1, 1, 109, 3, 1)
            .takes(ASKS, 1, 1, 49, 2, 9)
            .climb();
    }

    // ---- 5 sheets, parts

    private static void sheet() {
        naming("promise 16: sheet", (x, a) -> x.sheet(a[0], a[1], a[2]), 3, 1, 5)
            .unknown("SHEET", 0, NO_SHEETS)
            .outside("lane", 1, NO_LANES)
            .outside("n above 100", 2, 101, 102, MOST)
            .faults("SIZE", SIZE, sizes(2))
            .takes(CHANGES, 1)
            .takes(CHANGES, 1, 0, 0)
            .takes(CHANGES, 1, 1, 0)
            .takes(CHANGES, 1, 1, 2)
            .takes(CHANGES, 1, 2, 0)
            .takes(CHANGES, 1, 2, 100)
            .climb();
    }

    private static void lose() {
        quiet("promise 17: lose", (x, a) -> x.lose(a[0]), 3)
            .unknown("SHEET", 0, NO_SHEETS)
            .takes(ASKS, 0)
            .takes(CHANGES, 1, 0, 0)
            .takes(CHANGES, 1, 0, 2)
            .climb();
    }

    private static void put() {
        naming("promise 18: put", (x, a) -> x.put(a[0], a[1], a[2]), 1, 0, 5)
            .unknown("SHEET", 0, NO_SHEETS)
            .faults("NULL", NULL, new int[] {0, 3}, new int[] {0, 3, 1, MOST})
            .faults("INDEX", INDEX, new int[] {1, -1}, new int[] {1, 24}, new int[] {1, 100}, new int[] {1, LEAST},
                new int[] {1, MOST}, new int[] {0, 0, 1, 26}, new int[] {0, 2, 1, 15}, new int[] {0, 2, 1, -1})
            .takes(CHANGES, 1)
            .takes(CHANGES, 1, 1, 23)
            .takes(CHANGES, 1, 0, 0, 1, 25)
            .takes(CHANGES, 1, 0, 2, 1, 14, 2, LEAST)
            .takes(CHANGES, 1, 2, MOST)
            .climb();
    }

    private static void cell() {
        naming("promise 19: cell", (x, a) -> x.cell(a[0], a[1], a[2]), 1, 0, 1)
            .answersLong()
            .unknown("SHEET", 0, NO_SHEETS)
            .outside("lane", 2, NO_LANES)
            .faults("CAST", CAST, casts(0, 2))
            .faults("NULL", NULL, nulls(0, 2))
            .faults("INDEX", INDEX, new int[] {1, -1}, new int[] {1, 24}, new int[] {1, 100}, new int[] {1, LEAST},
                new int[] {1, MOST})
            .takes(ASKS, 0)
            .takes(ASKS, -1, 1, 23)
            .takes(ASKS, 'n', 0, 0, 2, 0)
            .takes(ASKS, 1000, 0, 2, 2, 2)
            .climb();
    }

    private static void copy() {
        naming("promise 20: copy", (x, a) -> x.copy(a[0], a[1], a[2], a[3], a[4]), 1, 0, 1, 1, 1)
            .unknown("SHEET", 0, NO_SHEETS)
            .unknown("the other SHEET", 2, NO_SHEETS)
            .faults("NULL", NULL, new int[] {0, 3, 2, 1}, new int[] {0, 1, 2, 3}, new int[] {0, 3, 2, 3},
                new int[] {0, 3, 2, 0}, new int[] {0, 2, 2, 3})
            .faults("CAST", CAST, new int[] {0, 0, 2, 1}, new int[] {0, 1, 2, 0}, new int[] {0, 0, 2, 2},
                new int[] {0, 2, 2, 0}, new int[] {0, 1, 2, 2}, new int[] {0, 2, 2, 1})
            .faults("INDEX i", INDEX, new int[] {1, -1, 4, 0}, new int[] {1, 25, 4, 0}, new int[] {1, 24},
                new int[] {1, 22, 3, 0, 4, 3}, new int[] {1, LEAST}, new int[] {1, MOST}, new int[] {1, MOST, 4, MOST})
            .faults("INDEX j", INDEX, new int[] {3, -1, 4, 0}, new int[] {3, 25, 4, 0}, new int[] {3, 24},
                new int[] {1, 0, 3, 22, 4, 3}, new int[] {3, LEAST}, new int[] {3, MOST}, new int[] {3, MOST, 4, MOST})
            .faults("INDEX n", INDEX, new int[] {4, -1}, new int[] {1, 0, 3, 0, 4, 25}, new int[] {4, LEAST},
                new int[] {4, MOST})
            .takes(CHANGES, 1)
            .takes(ASKS, 0, 4, 0)
            .takes(ASKS, 0, 1, 24, 3, 24, 4, 0)
            .takes(ASKS, 24, 1, 0, 3, 0, 4, 24)
            .takes(ASKS, 1, 1, 23, 3, 23)
            .climb();
    }

    private static void tellAndMourn() {
        quiet("promise 21: tell", (x, a) -> x.tell(a[0]), 0)
            .unknown("ONE", 0, NO_ONES)
            .takes(CHANGES, 7)
            .takes(CHANGES, 110, 0, 2)
            .climb();
        quiet("promise 22: mourn", (x, a) -> x.mourn(a[0]), 0)
            .unknown("ONE", 0, NO_ONES)
            .takes(CHANGES, 0)
            .takes(CHANGES, 80, 0, 2)
            .climb();
    }

    private static void as() {
        naming("promise 23: as", (x, a) -> x.as(a[0], a[1]), 0, 0)
            .unknown("ONE", 0, NO_ONES)
            .outside("kind", 1, -1, 3, LEAST, MOST)
            .faults("CAST", CAST, new int[] {0, 0, 1, 1}, new int[] {0, 0, 1, 2}, new int[] {0, 1, 1, 2})
            .takes(ASKS, 1)
            .takes(ASKS, 1, 0, 1)
            .takes(ASKS, 1, 0, 1, 1, 1)
            .takes(ASKS, 1, 0, 2, 1, 2)
            .climb();
    }
}
