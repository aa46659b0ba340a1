import java.math.BigInteger;

/** Promises 21 to 25 at their boundaries, sentence by sentence. */
public final class EdgeBodyTests {
    private static final Check check = new Check("EdgeBodyTests");
    private static final String KINDS = "nlf";

    public static void main(String[] args) {
        tellsOfEachKindAndNumber();
        bodiesInTheirOrder();
        placesInTheList();
        takenAsAKind();
        traceWraps();
        onlyTheTraceChanges();
        faultOfTheLatestThatNamesOne();
        check.close();
    }

    // ---- promise 21

    /** "NAMED: NUMBER. LENT: what NAMED's gives, and 100. FOREIGN: what LENT's gives, and what NAMED's gives". */
    private static void tellsOfEachKindAndNumber() {
        for (int kind = 0; kind < 3; kind++) {
            for (int number = 1; number < 100; number++) {
                LivingNumbers x = Check.of(String.format("%c%d%02d0099", KINDS.charAt(kind), number % 2, number));
                int due = kind == 0 ? number : kind == 1 ? number + 100 : 2 * number + 100;
                check.due("promise 21: kind " + kind + " with " + number, x.tell(0), due);
            }
        }
    }

    /** "leave their number in TRACE as they begin": 3, 2, 1, and 1 again, with LENT's left out. */
    private static void bodiesInTheirOrder() {
        int[][] bodies = {{1}, {2, 1}, {3, 2, 1, 1}};
        int[] mourners = {4, 4, 5};
        for (int kind = 0; kind < 3; kind++) {
            LivingNumbers x = Check.of(KINDS.charAt(kind) + "0500099");
            long due = 0;
            for (int body : bodies[kind]) {
                due = 31 * due + body;
            }
            x.tell(0);
            check.due("promise 24: told of kind " + kind, x.trace(), due);
            check.due("promise 24: told once more, it stays", x.trace(), due);
            x.mourn(0);
            check.due("promise 24: mourned of kind " + kind, x.trace(), 31 * due + mourners[kind]);
        }
    }

    // ---- promise 22

    /** "its place in the list; FOREIGN ones have their own: 80". */
    private static void placesInTheList() {
        for (int kind = 0; kind < 3; kind++) {
            LivingNumbers x = Check.of(Check.times(KINDS.charAt(kind) + "1990001", 10));
            for (int one = 0; one < 10; one++) {
                check.due("promise 22: ONE " + one + " of kind " + kind, x.mourn(one), kind == 2 ? 80 : one);
            }
            check.due("promise 22: no ONE 10", x.mourn(10), -1);
            check.due("promise 22: no ONE -1", x.mourn(-1), -1);
        }
    }

    // ---- promise 23

    /** "0 NAMED; 1 LENT, a NAMED; 2 FOREIGN, a LENT": each is one of its own kind, and of those ahead of it. */
    private static void takenAsAKind() {
        int[][] due = {{-2, 1, Check.CAST, Check.CAST, -2}, {-2, 1, 1, Check.CAST, -2}, {-2, 1, 1, 1, -2}};
        for (int kind = 0; kind < 3; kind++) {
            LivingNumbers x = Check.of(KINDS.charAt(kind) + "0010001");
            for (int as = -1; as < 4; as++) {
                int answer = due[kind][as + 1];
                check.due("promise 23: kind " + kind + " as " + as, x.as(0, as), answer);
                check.due("promise 25: fault", x.fault(), answer == Check.CAST ? 2 : 0);
            }
            check.due("promise 23: the kind stays", x.ofOne(0, 0), kind);
        }
    }

    // ---- promise 24

    /** "an int that wraps": against a number that does not. */
    private static void traceWraps() {
        LivingNumbers x = Check.of("n0010001;l0010001;f0010001");
        int[][] bodies = {{1, 4}, {2, 1, 4}, {3, 2, 1, 1, 5}};
        BigInteger all = BigInteger.ZERO;
        boolean wentBelow = false;
        boolean wentAbove = false;
        for (int call = 0; call < 90; call++) {
            int one = call * call % 3;
            x.tell(one);
            x.mourn(one);
            for (int body : bodies[one]) {
                all = all.multiply(BigInteger.valueOf(31)).add(BigInteger.valueOf(body));
            }
            int trace = x.trace();
            check.due("promise 24: after " + call, trace, all.intValue());
            wentBelow |= trace < 0;
            wentAbove |= all.bitLength() > 31 && trace > 0;
        }
        check.holds("promise 24: it wrapped to numbers below 0 and above", wentBelow && wentAbove);
    }

    /** TELLING and MOURNING leave all else as it was. */
    private static void onlyTheTraceChanges() {
        LivingNumbers x = Standing.withFault(2);
        int trace = Standing.STATE.trace();
        for (int one = 0; one < 3; one++) {
            x.tell(one);
            x.mourn(one);
        }
        for (int body : new int[] {1, 4, 2, 1, 4, 3, 2, 1, 1, 5}) {
            trace = 31 * trace + body;
        }
        check.due("promise 25: telling names no fault", x.fault(), 2);
        check.same("promise 24: only the trace", State.of(x),
            new State(Standing.STATE.people(), Standing.STATE.sheets(), trace));
    }

    // ---- promise 25

    private static void answered(LivingNumbers x, String call, long got, long want, int fault) {
        check.due("promise 25: " + call, got, want);
        check.due("promise 25: fault() behind " + call, x.fault(), fault);
        check.due("promise 25: and again", x.fault(), fault);
    }

    /** "0: it came to none, or was refused": a FAULT lasts until the next call that names one, whatever comes of it. */
    private static void faultOfTheLatestThatNamesOne() {
        LivingNumbers x = Standing.made();
        answered(x, "SIZE", x.sheet(3, 0, -1), Check.SIZE, 4);
        answered(x, "a question", x.many(), 3, 4);
        answered(x, "a refused question", x.ofOne(3, 0), -1, 4);
        answered(x, "a refused long", x.told(2, 0, 1, 0), LivingNumbers.LOST, 4);
        answered(x, "a sheet lost", x.lose(3), 0, 4);
        answered(x, "INDEX", x.put(0, 26, 0), Check.INDEX, 3);
        answered(x, "NULL", x.put(3, 0, 0), Check.NULL, 1);
        answered(x, "NULL, a long", x.cell(3, 0, 0), LivingNumbers.LOST, 1);
        answered(x, "CAST, a long", x.cell(0, 0, 1), LivingNumbers.LOST, 2);
        answered(x, "CAST", x.copy(0, 0, 1, 0, 0), Check.CAST, 2);
        answered(x, "a refused one", x.copy(0, 0, 4, 0, 0), -1, 0);
        answered(x, "INDEX", x.copy(0, 0, 0, 0, 27), Check.INDEX, 3);
        answered(x, "one that came to none", x.as(2, 2), 1, 0);
        answered(x, "CAST of a kind", x.as(1, 2), Check.CAST, 2);
        answered(x, "a row that means nothing", x.means(0, 0, 1, 1, 0, 1), -100, 0);
        answered(x, "SIZE of a row", x.written(0, 1, 1, 0, -1, 0), Check.SIZE, 4);
        answered(x, "a FIRST FAULT", x.roll(0, 0, 0, 25), -125, 0);
        answered(x, "INDEX of BARGAINS", x.child(0, 0, 1, 2, 2, 16, 0, 0), Check.INDEX, 3);
        answered(x, "a BARGAIN outside", x.child(0, 0, 1, 2, 2, 0, 1, 0), -2, 0);
        answered(x, "INDEX of a row", x.turned(0, 0, 0, 1, 1, -1, 0), Check.INDEX, 3);
        answered(x, "a row that can't be turned", x.turned(0, 0, 0, 1, 1, 0, 1), -9, 0);
        answered(x, "NULL of a text", x.roll(3, 2, -1, -1), Check.NULL, 1);
        answered(x, "tell", x.tell(0), 7, 1);
        answered(x, "mourn", x.mourn(0), 0, 1);
        answered(x, "lives", x.lives(0, 0, 110), -2, 1);
        answered(x, "word", x.word(0, 0, 0), -2, 1);
        answered(x, "sayable", x.sayable(0, 0, -2), -1, 1);
        answered(x, "say", x.say(0, 0, 0, -1), 0, 1);
        answered(x, "both", x.both(0, 0, 0), -2, 1);
        answered(x, "lost", x.lost(0, 0, 0, 1), 0, 1);
        answered(x, "back", x.back(0, 0, 0, 1, 3), -1, 1);
        answered(x, "a lane outside", x.cell(0, 0, 3), LivingNumbers.LOST, 0);
    }
}
