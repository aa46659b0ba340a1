/** Promises 13 to 15: the dead. */
public final class DeadTests {
    private static final Check check = new Check("DeadTests");

    public static void main(String[] args) {
        lost();
        lostRefusals();
        back();
        backTheFirstOfSeveral();
        backRefusals();
        told();
        toldRefusals();
        check.close();
    }

    private static LivingNumbers people() {
        return Check.of("n0070040;l0121030;f1050520;n1200099;n0411050");
    }

    private static void lost() {
        LivingNumbers x = Check.of("n0100050;n0050020;n0050030;l1200040;f0330010");
        check.due("10 20 by 10 alone; 33 stays", x.lost(0, 0, 40, 2), 2);
        check.due("who lives alone takes all by one word", x.lost(0, 0, 40, 1), 1);
        check.due("who lives alone takes all by nine", x.lost(0, 0, 40, 9), 9);
        check.due("a number that another bears, too", x.lost(1, 0, 19, 1), 0);
        check.due("the last to bear it", x.lost(2, 0, 20, 1), 1);
        check.due("5 and 15, but not 10", x.lost(2, 0, 20, 2), 2);
        check.due("a word that does not live", x.lost(1, 0, 20, 9), 0);
        check.due("in the other village", x.lost(0, 1, 10, 9), 0);
        check.due("20 40 60 80 of village 1", x.lost(3, 1, 45, 9), 4);
        check.due("33 53 66 73 86 93 99, beside 20", x.lost(4, 1, 10, 9), 7);
        check.due("33 53 66 73, by three words: 93, 86, 99 too", x.lost(4, 1, 10, 3), 6);
        check.due("33 53 66 by two", x.lost(4, 1, 10, 2), 3);
        LivingNumbers one = Check.of("n0010050");
        check.due("1 to 9", one.lost(0, 0, 0, 9), 9);
        LivingNumbers far = Check.of("n0990050");
        check.due("99", far.lost(0, 0, 0, 9), 1);
    }

    private static void lostRefusals() {
        LivingNumbers x = people();
        for (int out : new int[] {-1, 5, Check.LEAST, Check.MOST}) {
            check.due("ONE " + out, x.lost(out, 0, 110, 0), -1);
        }
        for (int out : new int[] {-1, 2, Check.LEAST, Check.MOST}) {
            check.due("VILLAGE " + out, x.lost(0, out, 110, 0), -1);
        }
        for (int out : new int[] {-1, 110, Check.LEAST, Check.MOST}) {
            check.due("DAY " + out, x.lost(0, 0, out, 1), -2);
        }
        for (int out : new int[] {-1, 0, 10, Check.LEAST, Check.MOST}) {
            check.due("w " + out, x.lost(0, 0, 0, out), -2);
        }
    }

    private static void calls(LivingNumbers x, int quantity, int day, int w, int... row) {
        String call = "back " + quantity + " on " + day + " by " + w;
        check.due(call, x.back(quantity, 0, day, w, -1), row.length);
        for (int k = 0; k < 3; k++) {
            check.due(call + " at " + k, x.back(quantity, 0, day, w, k), k < row.length ? row[k] : -9);
        }
    }

    private static void callsNone(LivingNumbers x, int quantity, int day, int w) {
        for (int k = -1; k < 3; k++) {
            check.due("back " + quantity + " at " + k, x.back(quantity, 0, day, w, k), -9);
        }
    }

    private static void back() {
        LivingNumbers x = people();
        calls(x, 0, 0, 1);
        calls(x, 12, 35, 1);
        calls(x, 12, 45, 1, 1);
        calls(x, 25, 60, 3, 2, 3);
        calls(x, 82, 45, 2);
        calls(x, 20, 15, 1, 3);
        calls(x, 27, 15, 2, 3);
        calls(x, 24, 109, 3, 1);
        calls(x, 39, 109, 3, 0, 1, 3);
        callsNone(x, 999, 60, 9);
        callsNone(x, 24, 109, 1);
        callsNone(new LivingNumbers(), 1, 0, 9);
        calls(new LivingNumbers(), 0, 0, 9);
        LivingNumbers four = Check.of("n0010001;n0100001;n0300001;n0900001");
        callsNone(four, 131, 5, 3);
        callsNone(four, 131, 5, 5);
        calls(four, 131, 5, 6, 0, 1, 2);
        calls(four, 90, 5, 9, 1);
        calls(four, 130, 5, 5, 1, 2);
        calls(four, 130, 5, 3, 1, 2, 3);
    }

    private static void backTheFirstOfSeveral() {
        LivingNumbers x = Check.of("n0080001;n0050001;n0040099;n0030001;n0080001;n0200001");
        calls(x, 8, 5, 1, 0);
        calls(x, 16, 5, 2, 0);
        calls(x, 8, 5, 2);
        calls(x, 12, 5, 2, 0);
        calls(x, 23, 5, 2, 3, 5);
        calls(x, 33, 5, 3, 0, 1, 5);
        calls(x, 9, 5, 2, 1);
        calls(x, 13, 5, 2, 0, 1);
        LivingNumbers ten = Check.of("n1020099;" + Check.times("n1030099", 6) + ";n1500099;n1070099;n1600099");
        calls(ten, 117, 0, 3, 7, 8, 9);
        calls(ten, 110, 0, 2, 7, 9);
        calls(ten, 60, 0, 1, 9);
        callsNone(ten, 891, 0, 9);
    }

    private static void backRefusals() {
        LivingNumbers x = people();
        for (int out : new int[] {-1, 2, Check.LEAST, Check.MOST}) {
            check.due("VILLAGE " + out, x.back(1000, out, 110, 0, 0), -1);
        }
        for (int out : new int[] {-2, 3, Check.LEAST, Check.MOST}) {
            check.due("k " + out, x.back(1000, 0, 110, 0, out), -1);
        }
        for (int out : new int[] {-1, 1000, Check.LEAST, Check.MOST}) {
            check.due("QUANTITY " + out, x.back(out, 0, 0, 1, 0), -2);
        }
        for (int out : new int[] {-1, 110, Check.LEAST, Check.MOST}) {
            check.due("DAY " + out, x.back(0, 0, out, 1, 0), -2);
        }
        for (int out : new int[] {-1, 0, 10, Check.LEAST, Check.MOST}) {
            check.due("w " + out, x.back(0, 0, 0, out, 0), -2);
        }
    }

    private static void share(LivingNumbers x, int village, int day, int w, int upper, int lower) {
        check.due("upper on " + day + " by " + w, x.told(village, day, w, 0), upper);
        check.due("lower on " + day + " by " + w, x.told(village, day, w, 1), lower);
    }

    private static void told() {
        LivingNumbers x = people();
        share(x, 0, 15, 1, 4, 99);
        share(x, 0, 15, 2, 13, 99);
        share(x, 0, 15, 9, 29, 33);
        share(x, 0, 109, 9, 0, 1);
        share(x, 1, 15, 1, 2, 99);
        share(Check.of("n0010099"), 0, 0, 9, 1, 11);
        share(Check.of("n0010099"), 0, 0, 3, 1, 33);
        share(Check.of("n0330099"), 0, 0, 9, 1, 33);
        share(Check.of("n0030099"), 0, 0, 2, 2, 99);
        share(Check.of("n0010099;n0030099;n0090099;n0270099;n0810099"), 0, 0, 9, 1, 1);
        share(new LivingNumbers(), 1, 109, 1, 0, 1);
    }

    private static void toldRefusals() {
        LivingNumbers x = people();
        for (int out : new int[] {-1, 2, Check.LEAST, Check.MOST}) {
            check.due("VILLAGE " + out, x.told(out, 0, 1, 0), LivingNumbers.LOST);
            check.due("which " + out, x.told(0, 0, 1, out), LivingNumbers.LOST);
        }
        for (int out : new int[] {-1, 110, Check.LEAST, Check.MOST}) {
            check.due("DAY " + out, x.told(0, out, 1, 0), LivingNumbers.LOST);
        }
        for (int out : new int[] {-1, 0, 10, Check.LEAST, Check.MOST}) {
            check.due("w " + out, x.told(0, 0, out, 0), LivingNumbers.LOST);
        }
    }
}
