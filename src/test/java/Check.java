/** Counts answers that are due, and makes the objects that most tests begin with. */
final class Check {
    static final int NULL = -11, CAST = -12, INDEX = -13, SIZE = -14;
    static final int LEAST = Integer.MIN_VALUE, MOST = Integer.MAX_VALUE;

    private final String name;
    private int passed = 0;
    private int failed = 0;

    Check(String name) {
        this.name = name;
    }

    void due(String call, long got, long want) {
        if (got == want) {
            passed++;
            return;
        }
        failed++;
        System.out.println(name + ": " + call + " answered " + got + ", due is " + want);
    }

    void holds(String what, boolean is) {
        due(what, is ? 1 : 0, 1);
    }

    void same(String what, Object got, Object want) {
        if (got.equals(want)) {
            passed++;
            return;
        }
        failed++;
        System.out.println(name + ": " + what + " is " + got + ", due is " + want);
    }

    void close() {
        System.out.println(name + ": " + passed + " passed, " + failed + " failed");
        if (failed != 0) {
            System.exit(1);
        }
    }

    static int[] codes(String text) {
        return text.chars().toArray();
    }

    static void fill(LivingNumbers x, int sheet, int lane, int... cells) {
        x.sheet(sheet, lane, cells.length);
        for (int i = 0; i < cells.length; i++) {
            x.put(sheet, i, cells[i]);
        }
    }

    /** Leaves sheet 0 with the text, as shorts. */
    static int roll(LivingNumbers x, String text) {
        fill(x, 0, 1, codes(text));
        return x.roll(0, 1, 0, text.length());
    }

    static LivingNumbers of(String text) {
        LivingNumbers x = new LivingNumbers();
        if (roll(x, text) < 1) {
            throw new IllegalArgumentException("no roll: " + text);
        }
        return x;
    }

    static String times(String one, int n) {
        return String.join(";", java.util.Collections.nCopies(n, one));
    }
}
