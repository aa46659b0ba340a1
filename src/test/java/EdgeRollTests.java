import java.util.List;

/** Promises 1 to 6 and 26 at their boundaries, sentence by sentence. */
public final class EdgeRollTests {
    private static final Check check = new Check("EdgeRollTests");
    private static final int NONE = LivingNumbers.NONE, NEVER = -1;

    public static void main(String[] args) {
        noPeople();
        sheetsHaveNothing();
        objectsAreApart();
        theLastOfAllCalls();
        everyCodeOfAText();
        codesOfALane();
        everyNumberFromAndTill();
        textsThatEndTooSoon();
        anEleventhOne();
        whereTheTextStands();
        fromRollToRoll();
        partsOfAOne();
        daysOnWhichAWordLives();
        theOneOfTheLeastNumber();
        numbersThatCanBeSaid();
        check.close();
    }

    // ---- promise 1

    /** "No ROLL (no PEOPLE)". */
    private static void noPeople() {
        LivingNumbers x = new LivingNumbers();
        int[] ofNoOne = {x.ofOne(0, 0), x.lives(0, 0, 0), x.lost(0, 0, 0, 1), x.tell(0), x.mourn(0), x.as(0, 0)};
        for (int call = 0; call < ofNoOne.length; call++) {
            check.due("promise 1: no ONE 0, call " + call, ofNoOne[call], LivingNumbers.UNKNOWN);
        }
        check.due("promise 1: many", x.many(), 0);
        check.due("promise 1: trace", x.trace(), 0);
        for (int village = 0; village < 2; village++) {
            for (int number = 1; number < 100; number++) {
                check.due("promise 1: word " + number, x.word(number, village, 109 * village), NONE);
            }
            check.due("promise 1: no NUMBER", x.sayable(village, 50, -1), 0);
            check.due("promise 1: no first NUMBER", x.sayable(village, 50, 0), NONE);
            check.due("promise 1: 0 is said by none", x.say(0, village, 50, -1), 0);
            check.due("promise 1: 1 can't be said", x.say(1, village, 50, -1), NONE);
            check.due("promise 1: 0 calls none back", x.back(0, village, 50, 1, -1), 0);
            check.due("promise 1: 1 has none to call back", x.back(1, village, 50, 9, -1), NONE);
            check.due("promise 1: the upper number of none", x.told(village, 50, 9, 0), 0);
            check.due("promise 1: the lower number of none", x.told(village, 50, 9, 1), 1);
        }
        check.due("promise 1: both say 0", x.both(0, 1, 50), 0);
        check.due("promise 1: both say no more", x.both(1, 9, 50), NONE);
    }

    /** "SHEETS have nothing"; "0 ahead of any". */
    private static void sheetsHaveNothing() {
        LivingNumbers x = new LivingNumbers();
        check.due("promise 25: fault() ahead of any", x.fault(), 0);
        for (int k = 0; k < 4; k++) {
            for (int lane = 0; lane < 3; lane++) {
                check.due("promise 1: a cell of sheet " + k, x.cell(k, 0, lane), LivingNumbers.LOST);
                check.due("promise 1: its fault", x.fault(), 1);
                check.due("promise 1: a row of sheet " + k, x.means(0, 0, k, lane, 0, 0), Check.NULL);
            }
            check.due("promise 1: sheet " + k, x.lose(k), 0);
        }
    }

    private static void objectsAreApart() {
        LivingNumbers x = new LivingNumbers();
        State first = State.of(x);
        LivingNumbers other = Standing.withFault(2);
        check.due("promise 1: the other one's fault", other.fault(), 2);
        check.due("promise 1: fault", new LivingNumbers().fault(), 0);
        check.same("promise 1: what can be seen beside another object", State.of(x), first);
        check.same("promise 1: a new object beside another", State.of(new LivingNumbers()), first);
    }

    /** "An object is used for at most 512 calls". */
    private static void theLastOfAllCalls() {
        LivingNumbers x = Standing.made();
        int[] rolls = new int[3];
        for (int call = Standing.CALLS; call < 509; call++) {
            rolls[call % 3] = x.roll(0, 0, 9 * (call % 3), 26 - 9 * (call % 3));
        }
        for (int at = 0; at < 3; at++) {
            check.due("promise 2: roll " + at + " of so many", rolls[at], 3 - at);
        }
        check.due("promise 26: call 510", x.many(), 2);
        check.due("promise 8: call 511", x.say(60, 1, 20, -1), 5);
        check.due("promise 14: call 512", x.back(36, 0, 20, 3, 0), 0);
    }

    // ---- promise 2

    private static int rollOf(int lane, int[] codes) {
        LivingNumbers x = new LivingNumbers();
        Check.fill(x, 2, lane, codes);
        return x.roll(2, lane, 0, codes.length);
    }

    private static void taken(String text, int people) {
        check.due("promise 2: people of '" + text + "'", Check.roll(new LivingNumbers(), text), people);
    }

    private static void fault(String text, int place) {
        check.due("promise 2: FIRST FAULT of '" + text + "'", Check.roll(new LivingNumbers(), text), -100 - place);
    }

    /** "the place of the first code with which no TEXT goes on": each code from -300 to 400 at each place of a text. */
    private static void everyCodeOfAText() {
        String text = "n0121545;f1989899";
        String digits = "0123456789";
        String[] good = {"nlf", "01", digits, digits, "0123", digits, "23456789", digits, ";",
            "nlf", "01", digits, digits, digits, digits, "9", "9"};
        // Digits that make a FROM of 45 or more, with the TILL of 45; or a TILL that is not above; or a FROM of 99.
        String[] worse = {"", "", "", "", "456789", "", "01", "", "", "", "", "", "", "", "9", "012345678", "012345678"};
        int[] faults = {0, 1, 2, 3, 6, 5, 6, 7, 8, 9, 10, 11, 12, 13, 13, 15, 15};
        for (int place = 0; place < text.length(); place++) {
            for (int code = -300; code <= 400; code++) {
                int[] codes = Check.codes(text);
                codes[place] = code;
                int due = isOf(worse[place], code) ? -100 - faults[place] : isOf(good[place], code) ? 2 : -100 - place;
                check.due("promise 2: code " + code + " at " + place, rollOf(2, codes), due);
            }
        }
    }

    private static boolean isOf(String codes, int code) {
        return code >= 0 && code < 128 && codes.indexOf(code) >= 0;
    }

    /** "what comes to a cell of it is cut to its LANE": so is a code. */
    private static void codesOfALane() {
        int[] lanes = {256, 65536};
        for (int lane = 0; lane < 3; lane++) {
            for (int cut : lanes) {
                int[] codes = Check.codes("n0010001");
                codes[0] += cut;
                codes[7] -= cut;
                boolean isCut = lane == 0 || lane == 1 && cut == 65536;
                check.due("promise 2: codes beyond lane " + lane, rollOf(lane, codes), isCut ? 1 : -100);
            }
        }
    }

    /** "two digits 01 .. 99 (NUMBER), two digits 00 .. 98 (FROM), two digits above FROM (TILL)": all of them. */
    private static void everyNumberFromAndTill() {
        for (int number = 0; number < 100; number++) {
            LivingNumbers x = new LivingNumbers();
            String text = String.format("n0%02d0099", number);
            check.due("promise 2: NUMBER of " + text, Check.roll(x, text), number == 0 ? -102 : 1);
            check.due("promise 3: NUMBER of " + text, x.ofOne(0, 2), number == 0 ? -1 : number);
        }
        for (int from = 0; from < 100; from++) {
            for (int till = 0; till < 100; till++) {
                LivingNumbers x = new LivingNumbers();
                String text = String.format("l150%02d%02d", from, till);
                int due = from == 99 ? -104 : till <= from ? -106 : 1;
                check.due("promise 2: FROM and TILL of " + text, Check.roll(x, text), due);
                check.due("promise 3: FROM of " + text, x.ofOne(0, 3), due == 1 ? from : -1);
                check.due("promise 3: TILL of " + text, x.ofOne(0, 4), due == 1 ? till : -1);
            }
        }
    }

    /** "how many codes there are, if it just ends too soon". */
    private static void textsThatEndTooSoon() {
        String ten = Check.times("f1989899", 10);
        for (int n = 0; n <= ten.length(); n++) {
            LivingNumbers x = new LivingNumbers();
            boolean ends = n % 9 == 8;
            check.due("promise 2: the first " + n, Check.roll(x, ten.substring(0, n)), ends ? (n + 1) / 9 : -100 - n);
            check.due("promise 26: many of the first " + n, x.many(), ends ? (n + 1) / 9 : 0);
        }
        fault("", 0);
        fault("n00", 3);
        fault("n0019", 5);
        fault("n001505", 7);
        fault("n001504", 6);
        fault("n001989", 7);
        fault("n001988", 6);
        fault("n00199", 4);
        fault("n000", 2);
        // No TEXT goes on with a 4 behind a FROM of 49: it is told, whatever follows or does not.
        fault("n001484", 7);
        fault("n001484x", 7);
        fault("n001494", 6);
        fault("n001494x", 6);
        fault("n0014949", 6);
        fault("n00149", 6);
    }

    /** "1 to 10 PEOPLE"; "the ; of an eleventh ONE". */
    private static void anEleventhOne() {
        String ten = Check.times("n0010001", 10);
        taken(ten.substring(0, 8), 1);
        taken(ten, 10);
        fault(ten + ";", 89);
        fault(ten + ";n", 89);
        fault(ten + ";n0010001", 89);
        fault(ten + "n", 89);
        fault(ten + ";;", 89);
        fault(ten.substring(0, 80) + ";", 81);
        fault(";" + ten.substring(0, 80), 0);
        fault(ten.substring(0, 79) + "0;n0010001", 78);
    }

    /** "by a TEXT of n cells of a SHEET from i on". */
    private static void whereTheTextStands() {
        for (int lane = 0; lane < 3; lane++) {
            LivingNumbers x = new LivingNumbers();
            x.sheet(3, lane, 100);
            for (int i = 0; i < 8; i++) {
                x.put(3, 92 + i, "l1990098".charAt(i));
            }
            check.due("promise 2: the last cells", x.roll(3, lane, 92, 8), 1);
            check.due("promise 2: a cell beyond them", x.roll(3, lane, 93, 8), Check.INDEX);
            check.due("promise 2: all but the first of them", x.roll(3, lane, 93, 7), -100);
            check.due("promise 2: none behind them", x.roll(3, lane, 100, 0), -100);
            check.due("promise 2: none of them", x.roll(3, lane, 92, 0), -100);
            check.due("promise 2: all cells", x.roll(3, lane, 0, 100), -100);
            check.due("promise 2: the roll of them", x.ofOne(0, 2), 99);
            x.sheet(3, lane, 0);
            check.due("promise 2: an empty row", x.roll(3, lane, 0, 0), -100);
            check.due("promise 2: its fault", x.fault(), 0);
            check.due("promise 2: beyond an empty row", x.roll(3, lane, 0, 1), Check.INDEX);
        }
    }

    /** A new ROLL takes the place of the older one; a text with a FIRST FAULT does not. */
    private static void fromRollToRoll() {
        LivingNumbers x = Standing.made();
        x.roll(0, 0, 9, 17);
        State two = State.of(x);
        check.same("promise 2: two PEOPLE", two.people(), "2 people: 1 1 12 20 40, 2 1 5 20 40");
        check.same("promise 2: the sheets stay", two.sheets(), Standing.STATE.sheets());
        check.due("promise 2: the trace stays", two.trace(), Standing.STATE.trace());
        check.due("promise 3: ONE 2 is gone", x.ofOne(2, 0), -1);
        x.roll(0, 0, 0, 25);
        check.same("promise 2: a FIRST FAULT changes nothing", State.of(x), two);
        x.roll(0, 0, 0, 26);
        check.same("promise 2: three again", State.of(x), Standing.STATE);
    }

    // ---- promise 3

    /** "0 kind, 1 VILLAGE, 2 NUMBER, 3 FROM, 4 TILL", each at both ends. */
    private static void partsOfAOne() {
        LivingNumbers x = Check.of("n0010001;l1999899;f0500098;n1998099");
        check.same("promise 3: all parts", State.of(x).people(),
            "4 people: 0 0 1 0 1, 1 1 99 98 99, 2 0 50 0 98, 0 1 99 80 99");
    }

    // ---- promise 4

    /** The DAYS are all from the first to the last one; NEVER, if there are none. */
    private static void livesOn(String text, int village, int first, int last) {
        LivingNumbers x = Check.of(text);
        for (int day = 0; day < 110; day++) {
            int due = first != NEVER && day >= first && day <= last ? 1 : 0;
            int number = x.ofOne(0, 2);
            check.due("promise 4: lives " + text + " in " + village + " on " + day, x.lives(0, village, day), due);
            check.due("promise 5: word " + text + " in " + village + " on " + day, x.word(number, village, day),
                due == 1 ? 0 : NONE);
            check.due("promise 6: sayable " + text + " on " + day, x.sayable(village, day, -1), due);
        }
    }

    /**
     * "a NAMED one's in its own VILLAGE, from FROM on, ahead of TILL; a LENT one's likewise, but ten DAYS longer; a
     * FOREIGN one's as a LENT one's, but in both VILLAGES".
     */
    private static void daysOnWhichAWordLives() {
        for (int own = 0; own < 2; own++) {
            int away = 1 - own;
            livesOn("n" + own + "010001", own, 0, 0);
            livesOn("n" + own + "010099", own, 0, 98);
            livesOn("n" + own + "992040", own, 20, 39);
            livesOn("n" + own + "999899", own, 98, 98);
            livesOn("n" + own + "010099", away, NEVER, NEVER);
            livesOn("l" + own + "010001", own, 0, 10);
            livesOn("l" + own + "010099", own, 0, 108);
            livesOn("l" + own + "992040", own, 20, 49);
            livesOn("l" + own + "999899", own, 98, 108);
            livesOn("l" + own + "010099", away, NEVER, NEVER);
            for (int village = 0; village < 2; village++) {
                livesOn("f" + own + "010001", village, 0, 10);
                livesOn("f" + own + "010099", village, 0, 108);
                livesOn("f" + own + "992040", village, 20, 49);
                livesOn("f" + own + "999899", village, 98, 108);
            }
        }
    }

    // ---- promise 5

    /** "by that of the ONE of the least number". */
    private static void theOneOfTheLeastNumber() {
        LivingNumbers x = Check.of("n1330099;n0331020;l0331530;f1332050;n0330099");
        int[][] ones = {{0, 4}, {9, 4}, {10, 1}, {15, 1}, {19, 1}, {20, 2}, {39, 2}, {40, 3}, {59, 3}, {60, 4}, {98, 4},
            {99, NONE}, {109, NONE}};
        for (int[] at : ones) {
            check.due("promise 5: ONE of 33 on " + at[0], x.word(33, 0, at[0]), at[1]);
            check.due("promise 5: ONE of 33 in village 1 on " + at[0], x.word(33, 1, at[0]), at[0] < 99 ? 0 : NONE);
            check.due("promise 5: none of 32", x.word(32, 0, at[0]), NONE);
            check.due("promise 5: none of 34", x.word(34, 0, at[0]), NONE);
        }
        LivingNumbers last = Check.of(Check.times("n0500001", 9) + ";n0500002");
        check.due("promise 5: the first of ten", last.word(50, 0, 0), 0);
        check.due("promise 5: the last of ten", last.word(50, 0, 1), 9);
    }

    // ---- promise 6

    private static void said(String text, int village, int day, Integer... numbers) {
        LivingNumbers x = Check.of(text);
        List<Integer> due = List.of(numbers);
        check.due("promise 6: how many of " + text, x.sayable(village, day, -1), due.size());
        for (int k = 0; k < 12; k++) {
            int want = k < due.size() ? due.get(k) : NONE;
            check.due("promise 6: NUMBER " + k + " of " + text, x.sayable(village, day, k), want);
        }
    }

    /** "how many (k -1), the k-th, rising; NONE: there are fewer". */
    private static void numbersThatCanBeSaid() {
        said("n0990001;n0010001;n0500001", 0, 0, 1, 50, 99);
        said("n0500001;n0500001;f1500001;n1490001", 0, 0, 50);
        said("n0500001;n0500001;f1500001;n1490001", 1, 0, 49, 50);
        said("n0500001;n0500001;f1500001;n1490001", 1, 10, 50);
        said("n0500001;n0500001;f1500001;n1490001", 1, 11);
        said("n0100001;n0090001;n0080001;n0070001;n0060001;n0050001;n0040001;n0030001;n0020001;n0010001", 0, 0,
            1, 2, 3, 4, 5, 6, 7, 8, 9, 10);
    }
}
