import java.util.Arrays;

/** Promises 7 to 9 at their boundaries, sentence by sentence. */
public final class EdgeRowTests {
    private static final Check check = new Check("EdgeRowTests");
    private static final int NONE = LivingNumbers.NONE;

    public static void main(String[] args) {
        rowsOfAllLengths();
        whereTheRowStands();
        theFirstThatDoesNotLive();
        daysOnWhichARowMeans();
        everyQuantityByOne();
        theLeastAndTheGreatestQuantity();
        fewestAheadOfGreatest();
        theGreaterNumberWhereUnlike();
        onlyByNumbersThatCanBeSaid();
        daysOnWhichAQuantityIsSaid();
        turnedUpTo999();
        turnedFromDayToDay();
        check.close();
    }

    // ---- promise 7

    /** "PEOPLE, up to 20": rows of 0 to 20 words of 99 mean their sum, 21 are OUTSIDE. */
    private static void rowsOfAllLengths() {
        LivingNumbers x = Check.of("n0010001;f1990001");
        int[] row = new int[24];
        Arrays.fill(row, 1);
        for (int lane = 0; lane < 3; lane++) {
            Check.fill(x, 1, lane, row);
            for (int n = 0; n <= 24; n++) {
                int due = n <= 20 ? 99 * n : -2;
                check.due("promise 7: a row of " + n, x.means(0, 0, 1, lane, 0, n), due);
                check.due("promise 7: its fault", x.fault(), 0);
            }
            check.due("promise 7: a row of 25", x.means(0, 0, 1, lane, 0, 25), Check.INDEX);
            check.due("promise 7: its fault", x.fault(), 3);
        }
    }

    /** "of n such cells": none ahead of i, none from i and n on. */
    private static void whereTheRowStands() {
        LivingNumbers x = Check.of("n0010001;n0020001;n0040001;n0080001;n0160001;n0320001");
        Check.fill(x, 2, 0, 0, 1, 2, 3, 4, 5);
        for (int i = 0; i <= 6; i++) {
            for (int n = 0; i + n <= 6; n++) {
                int due = (1 << i + n) - (1 << i);
                check.due("promise 7: " + n + " words from " + i + " on", x.means(0, 0, 2, 0, i, n), due);
            }
        }
        x.sheet(2, 0, 0);
        check.due("promise 7: an empty row of a sheet with no cells", x.means(0, 0, 2, 0, 0, 0), 0);
        check.due("promise 7: beyond it", x.means(0, 0, 2, 0, 1, 0), Check.INDEX);
        LivingNumbers none = new LivingNumbers();
        none.sheet(2, 0, 1);
        check.due("promise 7: an empty row with no PEOPLE", none.means(1, 109, 2, 0, 1, 0), 0);
        check.due("promise 7: no ONE 0", none.means(1, 109, 2, 0, 0, 1), -1);
    }

    /** "-100 less the place (from 0 on) of the first WORD that does not LIVE". */
    private static void theFirstThatDoesNotLive() {
        LivingNumbers x = Check.of("n0010001;n1010001");
        Check.fill(x, 0, 0, new int[22]);
        for (int place = 0; place < 20; place++) {
            x.put(0, place, 1);
            check.due("promise 7: place " + place, x.means(0, 0, 0, 0, 0, 20), -100 - place);
            x.put(0, 19, 1);
            check.due("promise 7: the first of two", x.means(0, 0, 0, 0, 0, 20), -100 - place);
            check.due("promise 7: the place of the row", x.means(0, 0, 0, 0, place, 2), -100);
            x.put(0, 19, 0);
            x.put(0, place, 0);
        }
        x.put(0, 20, 1);
        check.due("promise 7: behind the row", x.means(0, 0, 0, 0, 0, 20), 20);
        check.due("promise 7: the last of the row", x.means(0, 0, 0, 0, 1, 20), -119);
        x.put(0, 0, 1);
        check.due("promise 7: ahead of the row", x.means(0, 0, 0, 0, 1, 19), 19);
        x.put(0, 19, 2);
        check.due("promise 7: UNKNOWN: a ONE, behind one that does not live", x.means(0, 0, 0, 0, 0, 20), -1);
    }

    /** "if all of them LIVE": from the latest FROM on, to the earliest end. */
    private static void daysOnWhichARowMeans() {
        LivingNumbers x = Check.of("n0011030;l0022025;f1041535");
        Check.fill(x, 1, 0, 0, 1, 2);
        for (int day = 0; day < 110; day++) {
            int due = day < 10 ? -100 : day < 20 ? -101 : day < 30 ? 7 : -100;
            check.due("promise 7: in village 0 on " + day, x.means(0, day, 1, 0, 0, 3), due);
            due = day < 20 ? -100 : day < 35 ? 6 : -100;
            check.due("promise 7: the lent and the foreign on " + day, x.means(0, day, 1, 0, 1, 2), due);
            due = day >= 15 && day < 45 ? 4 : -100;
            check.due("promise 7: the foreign one alone on " + day, x.means(day % 2, day, 1, 0, 2, 1), due);
            check.due("promise 7: abroad on " + day, x.means(1, day, 1, 0, 0, 3), -100);
        }
    }

    // ---- promise 8

    private static void saying(LivingNumbers x, int quantity, int... row) {
        check.due("promise 8: words for " + quantity, x.say(quantity, 0, 0, -1), row.length);
        for (int k = 0; k <= row.length; k++) {
            int due = k < row.length ? row[k] : NONE;
            check.due("promise 8: NUMBER " + k + " for " + quantity, x.say(quantity, 0, 0, k), due);
        }
    }

    private static void notSaid(LivingNumbers x, int quantity, int village, int day) {
        for (int k = -1; k < 2; k++) {
            check.due("promise 8: " + quantity + " can't be said, k " + k, x.say(quantity, village, day, k), NONE);
        }
    }

    /** "each as often as one likes": every QUANTITY by one NUMBER. */
    private static void everyQuantityByOne() {
        for (int number : new int[] {1, 2, 50, 98, 99}) {
            LivingNumbers x = null;
            for (int quantity = 0; quantity < 1000; quantity++) {
                if (quantity % 100 == 0) {
                    x = Check.of(String.format("n0%02d0001", number));
                }
                boolean can = quantity % number == 0;
                int words = quantity / number;
                check.due("promise 8: " + quantity + " by " + number, x.say(quantity, 0, 0, -1), can ? words : NONE);
                check.due("promise 8: behind its last", x.say(quantity, 0, 0, words), NONE);
                if (words > 0) {
                    check.due("promise 8: its last", x.say(quantity, 0, 0, words - 1), can ? number : NONE);
                }
            }
        }
    }

    /** "a QUANTITY (0 .. 999)"; "(0: none.)". */
    private static void theLeastAndTheGreatestQuantity() {
        LivingNumbers x = Check.of("n0010001;n0990001");
        saying(x, 0);
        saying(x, 1, 1);
        saying(x, 98, ones(98));
        saying(x, 99, 99);
        saying(x, 100, 99, 1);
        saying(x, 999, 99, 99, 99, 99, 99, 99, 99, 99, 99, 99, 1, 1, 1, 1, 1, 1, 1, 1, 1);
        saying(x, 990, 99, 99, 99, 99, 99, 99, 99, 99, 99, 99);
        check.due("promise 8: 1000", x.say(1000, 0, 0, -1), -2);
        check.due("promise 8: -1", x.say(-1, 0, 0, -1), -2);
        LivingNumbers none = new LivingNumbers();
        saying(none, 0);
        notSaid(none, 1, 0, 0);
        notSaid(none, 999, 0, 0);
    }

    private static int[] ones(int n) {
        int[] ones = new int[n];
        Arrays.fill(ones, 1);
        return ones;
    }

    /** "the fewest NUMBERS": fewer ones go ahead of greater ones. */
    private static void fewestAheadOfGreatest() {
        LivingNumbers x = Check.of("n0010001;n0200001;n0250001;n0400001;n0990001");
        saying(x, 40, 40);
        saying(x, 60, 40, 20);
        saying(x, 80, 40, 40);
        saying(x, 100, 99, 1);
        saying(x, 120, 99, 20, 1);
        saying(x, 139, 99, 40);
        saying(x, 140, 99, 40, 1);
        saying(x, 160, 99, 40, 20, 1);
        saying(x, 75, 25, 25, 25);
        LivingNumbers odd = Check.of("n0060001;n0100001;n0150001");
        saying(odd, 30, 15, 15);
        saying(odd, 20, 10, 10);
        saying(odd, 18, 6, 6, 6);
        saying(odd, 22, 10, 6, 6);
        notSaid(odd, 1, 0, 0);
        notSaid(odd, 5, 0, 0);
        notSaid(odd, 14, 0, 0);
        notSaid(odd, 29, 0, 0);
    }

    /** "of several such rows, told falling, the one that has the greater NUMBER where they first are unlike". */
    private static void theGreaterNumberWhereUnlike() {
        LivingNumbers x = Check.of("n0020001;n0030001;n0050001;n0060001;n0080001;n0090001");
        saying(x, 11, 9, 2);
        saying(x, 12, 9, 3);
        saying(x, 13, 8, 5);
        saying(x, 14, 9, 5);
        saying(x, 16, 8, 8);
        saying(x, 19, 9, 8, 2);
        saying(x, 20, 9, 9, 2);
        saying(x, 22, 9, 8, 5);
        LivingNumbers late = Check.of("n0100001;n0040001;n0030001;n0070001;n0060001");
        saying(late, 10, 10);
        saying(late, 13, 10, 3);
        saying(late, 20, 10, 10);
        saying(late, 19, 10, 6, 3);
        saying(late, 18, 10, 4, 4);
        LivingNumbers last = Check.of("n0200001;n0110001;n0090001;n0120001;n0080001");
        saying(last, 40, 20, 20);
        saying(last, 60, 20, 20, 20);
        saying(last, 52, 20, 20, 12);
        saying(last, 43, 20, 12, 11);
    }

    /** Of 19 and 1, and of 10 and 10: the 19 goes ahead while it LIVES, but not for the unborn, the dead, those away. */
    private static void onlyByNumbersThatCanBeSaid() {
        LivingNumbers x = Check.of("n0010099;n0100099;n0192030;n1190099;n0192030");
        int[][] days = {{0, 10, 10}, {19, 10, 10}, {20, 19, 1}, {29, 19, 1}, {30, 10, 10}, {98, 10, 10}};
        for (int[] on : days) {
            check.due("promise 8: words for 20 on " + on[0], x.say(20, 0, on[0], -1), 2);
            check.due("promise 8: the first on " + on[0], x.say(20, 0, on[0], 0), on[1]);
            check.due("promise 8: the second on " + on[0], x.say(20, 0, on[0], 1), on[2]);
            notSaid(x, 20, 1, on[0]);
        }
        notSaid(x, 20, 0, 99);
    }

    /** "NUMBERS that CAN BE SAID": on the first and on the last DAY, and not on those beside them. */
    private static void daysOnWhichAQuantityIsSaid() {
        LivingNumbers x = Check.of("n0072030;l0051020;f1110004");
        int[][] words = {{0, 9, 22, 2}, {10, 13, 16, 2}, {14, 14, 15, 3}, {20, 29, 12, 2}, {29, 29, 5, 1}, {0, 13, 11, 1},
            {20, 29, 7, 1}};
        for (int[] said : words) {
            for (int day = said[0]; day <= said[1]; day++) {
                check.due("promise 8: " + said[2] + " on " + day, x.say(said[2], 0, day, -1), said[3]);
            }
        }
        int[][] none = {{14, 11}, {14, 22}, {9, 16}, {19, 7}, {19, 12}, {30, 7}, {30, 12}, {30, 5}, {109, 5}};
        for (int[] said : none) {
            notSaid(x, said[1], 0, said[0]);
        }
        check.due("promise 8: abroad on 13", x.say(11, 1, 13, -1), 1);
        notSaid(x, 11, 1, 14);
        notSaid(x, 7, 1, 20);
    }

    // ---- promise 9

    /** "NONE: it can't be SAID then, it means nothing, or more than 999". */
    private static void turnedUpTo999() {
        LivingNumbers x = Check.of("n0990001;n0090001;n0100001;n1010002;f0010102;n0080001");
        int[] row = new int[20];
        Check.fill(x, 1, 2, row);
        for (int n = 0; n <= 20; n++) {
            check.due("promise 9: 99 so often: " + n, x.turned(0, 0, 0, 1, 2, 0, n), n <= 10 ? n : NONE);
            check.due("promise 9: its fault", x.fault(), 0);
        }
        x.put(1, 10, 5);
        check.due("promise 9: 998", x.turned(0, 0, 0, 1, 2, 0, 11), 11);
        x.put(1, 10, 1);
        check.due("promise 7: 999", x.means(0, 0, 1, 2, 0, 11), 999);
        check.due("promise 9: 999", x.turned(0, 0, 0, 1, 2, 0, 11), 11);
        check.due("promise 9: 999 by words of 1", x.turned(0, 0, 1, 1, 2, 0, 11), 999);
        x.put(1, 10, 2);
        check.due("promise 7: 1000", x.means(0, 0, 1, 2, 0, 11), 1000);
        check.due("promise 9: 1000", x.turned(0, 0, 0, 1, 2, 0, 11), NONE);
        check.due("promise 9: 1000 by words of 1", x.turned(0, 0, 1, 1, 2, 0, 11), NONE);
    }

    /** "what a ROW MEANS on a DAY, SAID on another DAY (in the same VILLAGE)". */
    private static void turnedFromDayToDay() {
        LivingNumbers x = Check.of("n0122030;l0031020;n0060010;n1010099");
        Check.fill(x, 1, 1, 0, 1);
        for (int day = 0; day < 110; day++) {
            boolean means = day >= 20 && day <= 29;
            check.due("promise 9: 15 of " + day, x.turned(0, day, 20, 1, 1, 0, 2), means ? 2 : NONE);
            int words = day < 10 ? NONE : day < 20 ? 5 : day < 30 ? 2 : NONE;
            check.due("promise 9: 15 on " + day, x.turned(0, 20, day, 1, 1, 0, 2), words);
            words = day < 10 ? 2 : day < 20 ? 4 : day < 30 ? 1 : NONE;
            check.due("promise 9: 12 on " + day, x.turned(0, 20, day, 1, 1, 0, 1), words);
            check.due("promise 9: 0 on " + day, x.turned(0, 109, day, 1, 1, 2, 0), 0);
        }
        Check.fill(x, 1, 1, 0, 3);
        check.due("promise 9: a WORD of the other village", x.turned(0, 20, 20, 1, 1, 0, 2), NONE);
        check.due("promise 9: in the other village", x.turned(1, 0, 98, 1, 1, 1, 1), 1);
        check.due("promise 9: a DAY later", x.turned(1, 0, 99, 1, 1, 1, 1), NONE);
    }
}
