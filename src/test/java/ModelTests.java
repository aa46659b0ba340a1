import java.util.Random;

/** Long random runs, in which the program and the model must give the same answers. */
public final class ModelTests {
    /** A run ends with the first step that comes past so many calls: one takes at most 104 of an object's 512. */
    private static final int CALLS = 405;
    private static final int RUNS = 5000, MOST_TOLD = 20;
    private static final int[] ODD = {-2, -1, 0, 1, 2, 3, 4, 5, 9, 10, 20, 21, 99, 100, 101, 109, 110, 999, 1000,
        Integer.MAX_VALUE, Integer.MAX_VALUE - 1, Integer.MIN_VALUE, Integer.MIN_VALUE + 1};

    private final Random random;
    private final Check check;
    private final LivingNumbers x = new LivingNumbers();
    private final Model m = new Model();
    private final boolean tame;
    /** What the latest sheet calls were likely to leave behind, so that later calls often fit. */
    private final int[] lanes = new int[4];
    private final int[] sizes = new int[4];
    private int calls = 0;

    private ModelTests(Check check, long seed) {
        this.check = check;
        random = new Random(seed);
        tame = seed % 3 != 0;
    }

    public static void main(String[] args) {
        Check check = new Check("ModelTests");
        for (int seed = 0; seed < RUNS; seed++) {
            new ModelTests(check, seed).run();
        }
        check.close();
    }

    private void run() {
        newRoll();
        for (int step = 0; step < CALLS && calls < CALLS; step++) {
            one();
            same("fault", x.fault(), m.fault());
        }
    }

    private void same(String call, long got, long want) {
        calls++;
        check.due(call, got, want);
    }

    private int among(int low, int high) {
        return low + random.nextInt(high - low + 1);
    }

    /** Mostly of the range, now and then odd. */
    private int pick(int low, int high) {
        return random.nextInt(tame ? 60 : 12) == 0 ? ODD[random.nextInt(ODD.length)] : among(low, high);
    }

    private int day() {
        return random.nextInt(4) == 0 ? pick(0, 109) : pick(5, 40);
    }

    private void newRoll() {
        StringBuilder text = new StringBuilder();
        int most = random.nextInt(4) == 0 ? 99 : 20;
        int many = among(1, random.nextInt(10) == 0 ? 11 : 10);
        for (int one = 0; one < many; one++) {
            int from = random.nextInt(2) == 0 ? among(0, 30) : among(0, 99);
            int till = random.nextInt(20) == 0 ? among(0, 99) : Math.min(99, among(from + 1, from + 60));
            text.append(one == 0 ? "" : ";").append("nlf".charAt(random.nextInt(3))).append(random.nextInt(2));
            text.append(String.format("%02d%02d%02d", among(random.nextInt(40) == 0 ? 0 : 1, most), from, till));
        }
        while (random.nextInt(3) == 0 && text.length() > 0) {
            spoil(text);
        }
        int k = random.nextInt(4);
        int lane = random.nextInt(3);
        int ahead = Math.min(random.nextInt(3), 100 - Math.min(100, text.length()));
        int n = Math.min(100, text.length());
        sheet(k, lane, ahead + n);
        for (int i = 0; i < n; i++) {
            put(k, ahead + i, text.charAt(i));
        }
        same("roll '" + text + "'", x.roll(k, lane, ahead, n), m.roll(k, lane, ahead, n));
        same("many", x.many(), m.many());
    }

    private void spoil(StringBuilder text) {
        int place = random.nextInt(text.length());
        switch (random.nextInt(4)) {
            case 0:
                text.setLength(place);
                return;
            case 1:
                text.deleteCharAt(place);
                return;
            default:
                text.setCharAt(place, "0123456789nlf;x/:".charAt(random.nextInt(17)));
        }
    }

    private void sheet(int k, int lane, int n) {
        same("sheet", x.sheet(k, lane, n), m.sheet(k, lane, n));
        if (k >= 0 && k < 4 && lane >= 0 && lane < 3 && n >= 0 && n <= 100) {
            lanes[k] = lane;
            sizes[k] = n;
        }
    }

    private void put(int k, int i, int v) {
        same("put", x.put(k, i, v), m.put(k, i, v));
    }

    private void newRow(int low, int high, int most) {
        int k = random.nextInt(4);
        sheet(k, random.nextInt(3), among(0, most));
        for (int i = 0; i < sizes[k]; i++) {
            put(k, i, pick(low, high));
        }
    }

    private void one() {
        int kind = random.nextInt(24);
        if (kind < 8) {
            askPeople(kind);
        } else if (kind < 14) {
            askCells(kind - 8);
        } else {
            change(kind - 14);
        }
    }

    private void askPeople(int kind) {
        int village = pick(0, 1);
        int day = day();
        int w = pick(1, 9);
        int one = pick(0, 9);
        int quantity = random.nextInt(3) == 0 ? pick(0, 999) : pick(0, 99);
        int k = random.nextInt(2) == 0 ? -1 : pick(0, 6);
        switch (kind) {
            case 0:
                same("ofOne", x.ofOne(one, k), m.ofOne(one, k));
                same("lives", x.lives(one, village, day), m.lives(one, village, day));
                return;
            case 1:
                same("word", x.word(quantity, village, day), m.word(quantity, village, day));
                same("sayable", x.sayable(village, day, k), m.sayable(village, day, k));
                return;
            case 2:
                same("say", x.say(quantity, village, day, k), m.say(quantity, village, day, k));
                return;
            case 3:
                same("both", x.both(quantity, w, day), m.both(quantity, w, day));
                return;
            case 4:
                same("lost", x.lost(one, village, day, w), m.lost(one, village, day, w));
                return;
            case 5:
                int at = pick(-1, 2);
                if (random.nextInt(3) == 0) {
                    same("back", x.back(quantity, village, day, w, at), m.back(quantity, village, day, w, at));
                }
                return;
            case 6:
                int which = pick(0, 1);
                same("told", x.told(village, day, w, which), m.told(village, day, w, which));
                return;
            default:
                same("tell", x.tell(one), m.tell(one));
                same("mourn", x.mourn(one), m.mourn(one));
                same("as", x.as(one, k), m.as(one, k));
                same("trace", x.trace(), m.trace());
        }
    }

    private void askCells(int kind) {
        int village = pick(0, 1);
        int day = day();
        int other = day();
        int k = pick(0, 3);
        int size = k >= 0 && k < 4 ? sizes[k] : 1;
        int lane = k >= 0 && k < 4 && random.nextInt(15) != 0 ? lanes[k] : pick(0, 2);
        int i = pick(0, Math.min(3, size));
        int n = pick(0, i >= 0 && i <= size ? size - i : 0);
        int what = pick(0, 2);
        int w = pick(1, 9);
        switch (kind) {
            case 0:
            case 1:
                same("means", x.means(village, day, k, lane, i, n), m.means(village, day, k, lane, i, n));
                return;
            case 2:
                same("turned", x.turned(village, day, other, k, lane, i, n),
                    m.turned(village, day, other, k, lane, i, n));
                return;
            case 3:
                same("child", x.child(village, day, w, k, lane, i, n, what),
                    m.child(village, day, w, k, lane, i, n, what));
                return;
            case 4:
                same("written", x.written(village, k, lane, i, n, what), m.written(village, k, lane, i, n, what));
                return;
            default:
                same("cell", x.cell(k, i, lane), m.cell(k, i, lane));
                same("roll", x.roll(k, lane, i, n), m.roll(k, lane, i, n));
        }
    }

    private void change(int kind) {
        int k = pick(0, 3);
        int other = pick(0, 3);
        switch (kind) {
            case 0:
                if (random.nextInt(8) == 0) {
                    newRoll();
                }
                return;
            case 1:
            case 2:
                newRow(0, Math.max(0, m.many() - 1), 20);
                return;
            case 3:
                newRow(0, random.nextInt(2) == 0 ? 100 : 999, 12);
                return;
            case 4:
                sheet(k, pick(0, 2), pick(0, 100));
                return;
            case 5:
                if (random.nextInt(4) == 0) {
                    same("lose", x.lose(k), m.lose(k));
                }
                return;
            case 6:
                put(k, pick(0, MOST_TOLD), random.nextInt());
                return;
            default:
                int i = pick(0, 5);
                int j = pick(0, 5);
                int n = pick(0, 8);
                same("copy", x.copy(k, i, other, j, n), m.copy(k, i, other, j, n));
        }
    }
}
