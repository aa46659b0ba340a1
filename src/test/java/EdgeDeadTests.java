/** Promises 13 to 15 at their boundaries, sentence by sentence. */
public final class EdgeDeadTests {
    private static final Check check = new Check("EdgeDeadTests");
    private static final int NONE = LivingNumbers.NONE;

    public static void main(String[] args) {
        lostFrom1To99();
        lostWithAOne();
        lostOnADay();
        calledBackUpToThree();
        whoseWordsDoNotLive();
        theFirstAsARowThatGrows();
        calledBackByWords();
        leastAndGreatestQuantityToCallFor();
        sharesOfOneNumber();
        sharesInLeastTerms();
        sharesOnADay();
        check.close();
    }

    // ---- promise 13

    /** "QUANTITIES 1 .. 99 that can be SAID by at most w WORDS": with the only ONE, all of them are lost. */
    private static void lostFrom1To99() {
        for (int number = 1; number < 100; number++) {
            LivingNumbers x = Check.of(String.format("n0%02d0001", number));
            for (int w = 1; w <= 9; w++) {
                int due = Math.min(w, 99 / number);
                check.due("promise 13: with " + number + " by " + w, x.lost(0, 0, 0, w), due);
            }
            check.due("promise 13: in the other VILLAGE", x.lost(0, 1, 0, 9), 0);
            check.due("promise 13: on another DAY", x.lost(0, 0, 1, 9), 0);
        }
    }

    /** "but not if its WORD does not LIVE": what others say without it is not lost. */
    private static void lostWithAOne() {
        LivingNumbers x = Check.of("n0500001;n0250001;n0500001;f1330001;n0990001;n0010001");
        check.due("promise 13: another ONE bears 50", x.lost(0, 0, 0, 1), 0);
        check.due("promise 13: so for that one", x.lost(2, 0, 0, 1), 0);
        check.due("promise 13: 25 alone", x.lost(1, 0, 0, 1), 1);
        check.due("promise 13: 25 26 58 75, as 50 stays", x.lost(1, 0, 0, 2), 4);
        check.due("promise 13: 99 is the last that counts", x.lost(4, 0, 0, 1), 1);
        check.due("promise 13: 99 is 33 33 33, too", x.lost(4, 0, 0, 3), 0);
        check.due("promise 13: 33 66 99 in village 1", x.lost(3, 1, 0, 9), 3);
        check.due("promise 13: one of ten bears 1", Check.of(Check.times("n0010001", 10)).lost(9, 0, 0, 9), 0);
        LivingNumbers two = Check.of("n0010001;n0100001");
        check.due("promise 13: 1 to 9, and with tens", two.lost(0, 0, 0, 9), 9 + 8 + 7 + 6 + 5 + 4 + 3 + 2 + 1);
        check.due("promise 13: what 1 alone says stays", two.lost(1, 0, 0, 9), 9 * 11 - 9 - 36 - 9);
    }

    private static void lostOnADay() {
        LivingNumbers x = Check.of("n0402030;l0402535;f1402545");
        for (int day = 0; day < 110; day++) {
            int due = day >= 20 && day < 25 ? 2 : 0;
            check.due("promise 13: the NAMED on " + day, x.lost(0, 0, day, 9), due);
            check.due("promise 13: the LENT on " + day, x.lost(1, 0, day, 9), 0);
            due = day >= 45 && day < 55 ? 2 : 0;
            check.due("promise 13: the FOREIGN on " + day, x.lost(2, 0, day, 9), due);
            due = day >= 25 && day < 55 ? 2 : 0;
            check.due("promise 13: the FOREIGN at home on " + day, x.lost(2, 1, day, 9), due);
        }
    }

    // ---- promise 14

    private static void calls(LivingNumbers x, int quantity, int village, int day, int w, int... row) {
        String what = "promise 14: " + quantity + " in " + village + " on " + day + " by " + w;
        check.due(what, x.back(quantity, village, day, w, -1), row.length);
        for (int k = 0; k < 3; k++) {
            check.due(what + ", ONE " + k, x.back(quantity, village, day, w, k), k < row.length ? row[k] : NONE);
        }
    }

    private static void callsNone(LivingNumbers x, int quantity, int village, int day, int w) {
        for (int k = -1; k < 3; k++) {
            check.due("promise 14: none for " + quantity + ", k " + k, x.back(quantity, village, day, w, k), NONE);
        }
    }

    /** "the fewest PEOPLE (0 .. 3)". */
    private static void calledBackUpToThree() {
        LivingNumbers x = Check.of("n0010001;n0100001;n0300001;n0900001;n0020002");
        calls(x, 2, 0, 1, 1);
        calls(x, 4, 0, 1, 2);
        calls(x, 90, 0, 1, 1, 3);
        calls(x, 91, 0, 1, 2, 0, 3);
        calls(x, 101, 0, 1, 3, 0, 1, 3);
        callsNone(x, 131, 0, 1, 4);
        callsNone(x, 131, 0, 1, 5);
        calls(x, 131, 0, 1, 6, 0, 1, 2);
        calls(x, 131, 0, 0, 4);
        calls(x, 103, 0, 1, 4, 0, 1, 3);
        LivingNumbers ten = Check.of("n0010099;n0020001;n0030001;n0040001;n0050001;n0060001;n0070001;n0130001;n0290001;"
            + "n0710001");
        calls(ten, 71 + 29 + 13, 0, 50, 3, 7, 8, 9);
        callsNone(ten, 71 + 29 + 13 + 7, 0, 50, 3);
        calls(ten, 71 + 29 + 7 + 7, 0, 50, 4, 6, 8, 9);
    }

    /** "whose WORDS do not LIVE (in that VILLAGE, on that DAY)": the unborn, the dead, and those of the other one. */
    private static void whoseWordsDoNotLive() {
        LivingNumbers x = Check.of("n0102030;l0162030;f1222030");
        int[][] days = {{0, 1, 1, 1}, {19, 1, 1, 1}, {20, 0, 0, 0}, {29, 0, 0, 0}, {30, 1, 0, 0}, {39, 1, 0, 0},
            {40, 1, 1, 1}, {109, 1, 1, 1}};
        for (int[] on : days) {
            for (int one = 0; one < 3; one++) {
                int[] row = on[one + 1] == 1 ? new int[] {one} : new int[0];
                calls(x, 10 + 6 * one, 0, on[0], 1, row);
                calls(x, 10 + 6 * one, 1, on[0], 1, one == 2 ? row : new int[] {one});
            }
        }
        callsNone(x, 11, 0, 25, 9);
        callsNone(new LivingNumbers(), 1, 0, 0, 9);
    }

    /** "of several the first as a row of numbers that grow". */
    private static void theFirstAsARowThatGrows() {
        LivingNumbers x = Check.of("n1100001;n1200001;n1300001;n1400001;n1500001;n1600001;n1100001");
        calls(x, 10, 0, 0, 1, 0);
        calls(x, 70, 0, 0, 2, 0, 5);
        calls(x, 90, 0, 0, 2, 2, 5);
        calls(x, 110, 0, 0, 2, 4, 5);
        calls(x, 60, 0, 0, 2, 2);
        calls(x, 60, 0, 0, 3, 1);
        calls(x, 60, 0, 0, 6, 0);
        calls(x, 140, 0, 0, 3, 1, 5);
        calls(x, 150, 0, 0, 3, 4);
        callsNone(x, 169, 0, 109, 9);
    }

    /** "by at most w WORDS". */
    private static void calledBackByWords() {
        LivingNumbers x = Check.of("n0110099;f1130001");
        for (int w = 1; w <= 9; w++) {
            calls(x, 11 * w, 0, 50, w);
            calls(x, 11 * (w - 1) + 13, 0, 50, w, 1);
            calls(x, 13 * w, 0, 50, w, 1);
            if (w > 1) {
                callsNone(x, 13 * w, 0, 50, w - 1);
            }
        }
    }

    /** A QUANTITY is 0 .. 999: nobody is called for 0; by nine words no more than 891 is said. */
    private static void leastAndGreatestQuantityToCallFor() {
        LivingNumbers x = Check.of("n0990001;n0980001");
        calls(x, 0, 0, 50, 1);
        calls(x, 0, 0, 0, 9);
        calls(x, 891, 0, 0, 9);
        calls(x, 891, 0, 50, 9, 0);
        callsNone(x, 892, 0, 50, 9);
        callsNone(x, 999, 0, 50, 9);
        calls(x, 890, 0, 50, 9, 0, 1);
    }

    // ---- promise 15

    private static void share(LivingNumbers x, String what, int w, int upper, int lower) {
        check.due("promise 15: upper number of " + what, x.told(0, 0, w, 0), upper);
        check.due("promise 15: lower number of " + what, x.told(0, 0, w, 1), lower);
    }

    /** "of QUANTITIES 1 .. 99 how many can be SAID by at most w WORDS, as a share". */
    private static void sharesOfOneNumber() {
        int[] lowers = {99, 99, 33, 99, 99, 33, 99, 99, 11};
        int[] uppers = {1, 2, 1, 4, 5, 2, 7, 8, 1};
        for (int number = 1; number < 100; number++) {
            LivingNumbers x = Check.of(String.format("n0%02d0001", number));
            for (int w = 1; w <= 9; w++) {
                int said = Math.min(w, 99 / number);
                share(x, number + " by " + w, w, uppers[said - 1], lowers[said - 1]);
            }
        }
    }

    /** "in least terms"; "(above 0)": of none, the lower number is 1. */
    private static void sharesInLeastTerms() {
        share(new LivingNumbers(), "none", 9, 0, 1);
        share(people(1, 3, 9, 27, 81), "all 99", 9, 1, 1);
        share(people(1, 5, 27), "98", 9, 98, 99);
        share(people(1, 5, 26), "97", 9, 97, 99);
        share(people(1, 5, 40), "90", 9, 10, 11);
        share(people(1, 4, 37), "88", 9, 8, 9);
        share(people(3, 11, 42), "81", 9, 9, 11);
        share(people(3, 9, 23), "77", 9, 7, 9);
        share(people(2, 25, 28), "66", 9, 2, 3);
        share(people(1, 4, 59), "63", 9, 7, 11);
        share(people(2, 6, 45), "55", 9, 5, 9);
        share(people(1, 14), "50", 9, 50, 99);
        share(people(7, 15), "45", 9, 5, 11);
        share(people(1, 6), "44", 9, 4, 9);
        share(people(1, 4), "33", 9, 1, 3);
        share(people(1, 32), "30", 9, 10, 33);
        share(people(1, 33), "27", 9, 3, 11);
        share(people(1, 48), "22", 9, 2, 9);
        share(people(1, 33), "12", 4, 4, 33);
        share(people(1, 3), "11", 4, 1, 9);
        share(people(1, 2), "10", 5, 10, 99);
        share(people(1, 1), "9", 9, 1, 11);
    }

    private static LivingNumbers people(int... numbers) {
        StringBuilder text = new StringBuilder();
        for (int number : numbers) {
            text.append(text.length() == 0 ? "" : ";").append(String.format("n0%02d0001", number));
        }
        return Check.of(text.toString());
    }

    private static void sharesOnADay() {
        LivingNumbers x = Check.of("n0401030;f1441525");
        for (int day = 0; day < 110; day++) {
            boolean isNamed = day >= 10 && day < 30;
            boolean isForeign = day >= 15 && day < 35;
            int said = isNamed && isForeign ? 5 : isNamed || isForeign ? 2 : 0;
            check.due("promise 15: on " + day, x.told(0, day, 9, 0), said);
            check.due("promise 15: the lower on " + day, x.told(0, day, 9, 1), said == 0 ? 1 : 99);
            check.due("promise 15: in village 1 on " + day, x.told(1, day, 9, 0), isForeign ? 2 : 0);
        }
    }
}
