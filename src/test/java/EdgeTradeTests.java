import java.util.Arrays;

/** Promises 10 to 12 at their boundaries, sentence by sentence. */
public final class EdgeTradeTests {
    private static final Check check = new Check("EdgeTradeTests");
    private static final int NONE = LivingNumbers.NONE;

    public static void main(String[] args) {
        theLeastAndTheGreatestChild();
        theMostBargains();
        oneNumberMore();
        bargainsOfAllLengths();
        leastAndGreatestBargain();
        wordsOfAChild();
        daysAndVillagesOfAChild();
        bothFromAQuantityOn();
        bothByWords();
        bothOnADay();
        daysOfABook();
        booksOfAllLengths();
        check.close();
    }

    // ---- promise 10

    private static void child(String what, LivingNumbers x, int day, int w, int number, int said, int... bargains) {
        Check.fill(x, 3, 1, bargains);
        int n = bargains.length;
        check.due("promise 10: " + what + ", the NUMBER", x.child(0, day, w, 3, 1, 0, n, 0), number);
        check.due("promise 10: " + what + ", how many", x.child(0, day, w, 3, 1, 0, n, 1), said);
        check.due("promise 10: " + what + ", fault", x.fault(), 0);
    }

    /** "a NUMBER 1 .. 99": with no other word, and one to say it by, a child bears the BARGAIN itself. */
    private static void theLeastAndTheGreatestChild() {
        for (int number = 1; number < 100; number++) {
            child("BARGAIN " + number, new LivingNumbers(), 0, 1, number, 1, number);
        }
        child("BARGAIN 100 by one", new LivingNumbers(), 0, 1, 1, 0, 100);
        child("BARGAIN 100 by two", new LivingNumbers(), 0, 2, 50, 1, 100);
        child("BARGAIN 198 by two", new LivingNumbers(), 0, 2, 99, 1, 198);
        child("BARGAIN 200 by two", new LivingNumbers(), 0, 2, 1, 0, 200);
    }

    /** "the one by which the most of n BARGAINS"; "of several the least". */
    private static void theMostBargains() {
        LivingNumbers x = new LivingNumbers();
        child("one each", x, 0, 1, 30, 1, 70, 30, 50);
        child("two of 70", x, 0, 1, 70, 2, 70, 30, 50, 70);
        child("two of each", x, 0, 1, 30, 2, 70, 30, 70, 30);
        child("a divisor", x, 0, 3, 20, 3, 40, 60, 20, 99);
        child("the least divisor", x, 0, 6, 10, 3, 40, 60, 20, 99);
        child("all, but by more words", x, 0, 9, 11, 4, 33, 66, 99, 11);
        LivingNumbers by = Check.of("n0100099");
        child("with 10, two words", by, 0, 2, 5, 2, 15, 10);
        child("with 10, three words", by, 0, 3, 1, 2, 11, 12, 40);
        child("with 10, not all", by, 0, 2, 20, 3, 40, 30, 20, 45);
    }

    /** "a NUMBER more": one that can be said already helps no more than any that helps nothing. */
    private static void oneNumberMore() {
        LivingNumbers x = Check.of("n0010099;n0020099");
        child("all can be said", x, 0, 9, 1, 3, 1, 2, 18);
        child("18 is too far for one", x, 0, 1, 18, 3, 1, 2, 18);
        child("none can be said", x, 0, 1, 1, 0, 500, 600);
        check.due("promise 10: the child is not born", x.many(), 2);
        check.due("promise 10: its NUMBER can't be said", x.word(18, 0, 0), NONE);
    }

    /** "0 to 12 of them"; "n above 12". */
    private static void bargainsOfAllLengths() {
        for (int lane = 0; lane < 3; lane++) {
            LivingNumbers x = new LivingNumbers();
            int[] cells = new int[14];
            Arrays.fill(cells, 7);
            Check.fill(x, 0, lane, cells);
            for (int n = 0; n <= 14; n++) {
                int number = n > 12 ? -2 : n == 0 ? 1 : 7;
                check.due("promise 10: n " + n, x.child(1, 109, 1, 0, lane, 0, n, 0), number);
                check.due("promise 10: all of n " + n, x.child(1, 109, 1, 0, lane, 14 - n, n, 1), n > 12 ? -2 : n);
                check.due("promise 10: its fault", x.fault(), 0);
            }
            check.due("promise 10: n 15", x.child(1, 109, 1, 0, lane, 0, 15, 0), Check.INDEX);
            x.put(0, 13, 8);
            x.put(0, 0, 8);
            check.due("promise 10: none beside them", x.child(0, 0, 1, 0, lane, 1, 12, 1), 12);
            x.put(0, 12, 8);
            check.due("promise 10: the last of them", x.child(0, 0, 1, 0, lane, 1, 12, 1), 11);
            x.put(0, 1, 8);
            check.due("promise 10: the first of them", x.child(0, 0, 1, 0, lane, 1, 12, 1), 10);
        }
    }

    /** "BARGAINS (QUANTITIES": 0 to 999; 0 is said by none. */
    private static void leastAndGreatestBargain() {
        LivingNumbers x = new LivingNumbers();
        child("BARGAIN 0", x, 0, 1, 1, 1, 0);
        child("BARGAINS of 0", x, 0, 1, 5, 4, 0, 0, 5, 0);
        child("BARGAIN 999", x, 0, 9, 1, 0, 999);
        child("BARGAIN 999 with 90", Check.of("n0900099"), 0, 9, 1, 0, 999);
        Check.fill(x, 3, 2, 5, 1000, 5, -1, 5);
        for (int i = 0; i < 5; i++) {
            int due = i % 2 == 0 ? 5 : -2;
            check.due("promise 10: BARGAIN in cell " + i, x.child(0, 0, 1, 3, 2, i, 1, 0), due);
            check.due("promise 10: BARGAINS to cell " + i, x.child(0, 0, 1, 3, 2, 0, i + 1, 0), i == 0 ? 5 : -2);
            check.due("promise 10: its fault", x.fault(), 0);
        }
        Check.fill(x, 3, 2, Check.LEAST, Check.MOST);
        check.due("promise 10: the least cell", x.child(0, 0, 1, 3, 2, 0, 1, 0), -2);
        check.due("promise 10: the greatest cell", x.child(0, 0, 1, 3, 2, 1, 1, 0), -2);
    }

    /** "by at most w WORDS (1 .. 9)". */
    private static void wordsOfAChild() {
        LivingNumbers x = new LivingNumbers();
        int[] leastOf96 = {96, 48, 32, 24, 24, 16, 16, 12, 12};
        for (int w = 1; w <= 9; w++) {
            child("the most by " + w, x, 0, w, 99, 1, 99 * w);
            child("more than can be said by " + w, x, 0, w, 1, 0, 99 * w + 1);
            child("the least by " + w, x, 0, w, leastOf96[w - 1], 1, 96);
            child("a prime by " + w, x, 0, w, 97, 1, 97);
        }
        LivingNumbers ten = Check.of("n0100099");
        child("one word of ten, one of the child", ten, 0, 2, 33, 1, 43);
        child("eight words of ten, one of the child", ten, 0, 9, 3, 1, 83);
        child("nine words of ten", ten, 0, 9, 1, 1, 90);
        child("eight words of ten and two", ten, 0, 9, 2, 1, 82);
    }

    /** The words of the VILLAGE on the DAY, and no other ones, are there beside the child's. */
    private static void daysAndVillagesOfAChild() {
        LivingNumbers x = Check.of("n0502030;l0702030;f1901020");
        Check.fill(x, 3, 1, 50, 70, 90, 33);
        int[][] days = {{9, 1, 1}, {10, 2, 2}, {19, 2, 2}, {20, 4, 2}, {29, 4, 2}, {30, 2, 1}, {39, 2, 1}, {40, 1, 1}};
        for (int[] on : days) {
            check.due("promise 10: in village 0 on " + on[0], x.child(0, on[0], 1, 3, 1, 0, 4, 1), on[1]);
            check.due("promise 10: in village 1 on " + on[0], x.child(1, on[0], 1, 3, 1, 0, 4, 1), on[0] < 10 ? 1
                : on[0] < 30 ? 2 : 1);
        }
    }

    // ---- promise 11

    /** "the least QUANTITY from q on"; "NONE: none to 999". */
    private static void bothFromAQuantityOn() {
        for (int part = 0; part < 1000; part += 250) {
            LivingNumbers x = Check.of("f0990001");
            for (int q = part; q < part + 250; q++) {
                check.due("promise 11: from " + q + " on", x.both(q, 9, 0), q > 891 ? NONE : (q + 98) / 99 * 99);
            }
        }
        LivingNumbers x = new LivingNumbers();
        check.due("promise 11: 0 with no words", x.both(0, 1, 0), 0);
        check.due("promise 11: 1 with no words", x.both(1, 9, 0), NONE);
        check.due("promise 11: 999 with no words", x.both(999, 9, 109), NONE);
    }

    /** "by at most w WORDS in VILLAGE 0 and in VILLAGE 1": by each one's own words. */
    private static void bothByWords() {
        LivingNumbers x = Check.of("n0200001;n1300001");
        for (int w = 1; w <= 9; w++) {
            check.due("promise 11: 60 by " + w, x.both(1, w, 0), w < 3 ? NONE : 60);
            check.due("promise 11: 120 by " + w, x.both(61, w, 0), w < 6 ? NONE : 120);
            check.due("promise 11: 180 by " + w, x.both(121, w, 0), w < 9 ? NONE : 180);
            check.due("promise 11: 240 by " + w, x.both(181, w, 0), NONE);
            check.due("promise 11: 0 by " + w, x.both(0, w, 0), 0);
        }
    }

    private static void bothOnADay() {
        LivingNumbers x = Check.of("n0501030;l1252040");
        for (int day = 0; day < 110; day++) {
            boolean isSaid = day >= 20 && day < 30;
            check.due("promise 11: on " + day, x.both(1, 2, day), isSaid ? 50 : NONE);
            check.due("promise 11: by one on " + day, x.both(1, 1, day), NONE);
            check.due("promise 11: 0 on " + day, x.both(0, 1, day), 0);
        }
    }

    // ---- promise 12

    private static void book(LivingNumbers x, int village, int i, int n, int days, int first, int last) {
        String what = "promise 12: " + n + " words from " + i + " on in " + village;
        check.due(what + ": how many DAYS", x.written(village, 1, 2, i, n, 0), days);
        check.due(what + ": the first", x.written(village, 1, 2, i, n, 1), first);
        check.due(what + ": the last", x.written(village, 1, 2, i, n, 2), last);
        check.due(what + ": fault", x.fault(), 0);
    }

    /** "the DAYS on which all WORDS of a ROW LIVE in a VILLAGE". */
    private static void daysOfABook() {
        LivingNumbers x = Check.of("n0010001;n0010099;l0019899;f1012040;n0013940;n0014041;l1013040;n0010120");
        Check.fill(x, 1, 2, 0, 1, 2, 3, 4, 5, 6, 7);
        book(x, 0, 0, 0, 110, 0, 109);
        book(x, 1, 8, 0, 110, 0, 109);
        book(x, 0, 0, 1, 1, 0, 0);
        book(x, 0, 0, 2, 1, 0, 0);
        book(x, 0, 1, 1, 99, 0, 98);
        book(x, 0, 2, 1, 11, 98, 108);
        book(x, 0, 1, 2, 1, 98, 98);
        book(x, 0, 0, 3, 0, NONE, NONE);
        book(x, 0, 3, 1, 30, 20, 49);
        book(x, 1, 3, 1, 30, 20, 49);
        book(x, 0, 3, 2, 1, 39, 39);
        book(x, 0, 4, 2, 0, NONE, NONE);
        book(x, 0, 5, 1, 1, 40, 40);
        book(x, 0, 3, 3, 0, NONE, NONE);
        book(x, 1, 6, 1, 20, 30, 49);
        book(x, 0, 6, 1, 0, NONE, NONE);
        book(x, 0, 7, 1, 19, 1, 19);
        book(x, 1, 0, 1, 0, NONE, NONE);
        Check.fill(x, 1, 2, 3, 7);
        book(x, 0, 0, 2, 0, NONE, NONE);
    }

    /** A ROW is "up to 20": each word counts, the first and the last. */
    private static void booksOfAllLengths() {
        LivingNumbers x = Check.of("n0010099;n0015051");
        Check.fill(x, 1, 2, new int[22]);
        for (int n = 0; n <= 22; n++) {
            int due = n > 20 ? -2 : n == 0 ? 110 : 99;
            check.due("promise 12: n " + n, x.written(0, 1, 2, 0, n, 0), due);
            check.due("promise 12: its fault", x.fault(), 0);
        }
        for (int place = 0; place < 22; place++) {
            x.put(1, place, 1);
            boolean isIn = place > 0 && place < 21;
            book(x, 0, 1, 20, isIn ? 1 : 99, isIn ? 50 : 0, isIn ? 50 : 98);
            x.put(1, place, 2);
            check.due("promise 12: no ONE 2 in " + place, x.written(0, 1, 2, 1, 20, 0), isIn ? -1 : 99);
            x.put(1, place, 0);
        }
    }
}
