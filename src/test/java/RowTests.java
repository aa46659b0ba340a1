/** Promises 7 to 9. */
public final class RowTests {
    private static final Check check = new Check("RowTests");

    public static void main(String[] args) {
        means();
        meansOfTwenty();
        onlyTheCellsOfTheRow();
        refusals();
        faults();
        say();
        sayTheGreaterWhereUnlike();
        sayRefusals();
        turned();
        check.close();
    }

    /** 7 of village 0 on days 0 to 39, 12 lent there on 10 to 39, 5 in both on 5 to 29, 20 of village 1. */
    private static LivingNumbers people() {
        return Check.of("n0070040;l0121030;f1050520;n1200099;n0411050");
    }

    private static void means() {
        LivingNumbers x = people();
        for (int lane = 0; lane < 3; lane++) {
            Check.fill(x, 1, lane, 3, 0, 1, 2, 4, 0, 3);
            check.due("a row of five", x.means(0, 15, 1, lane, 1, 5), 72);
            check.due("a row of one", x.means(1, 15, 1, lane, 0, 1), 20);
            check.due("an empty row", x.means(0, 15, 1, lane, 7, 0), 0);
            check.due("the first does not live", x.means(0, 15, 1, lane, 0, 7), -100);
            check.due("the place is told of the row", x.means(0, 15, 1, lane, 1, 6), -105);
            check.due("the first of two that do not live", x.means(0, 35, 1, lane, 1, 6), -102);
            check.due("abroad", x.means(1, 15, 1, lane, 2, 2), -100);
            check.due("no fault", x.fault(), 0);
        }
    }

    private static void meansOfTwenty() {
        LivingNumbers x = Check.of("n0990099");
        Check.fill(x, 1, 0, new int[21]);
        check.due("twenty words", x.means(0, 0, 1, 0, 0, 20), 1980);
        check.due("twenty-one", x.means(0, 0, 1, 0, 0, 21), -2);
        check.due("turned: twenty words are more than 999", x.turned(0, 0, 0, 1, 0, 0, 20), -9);
        check.due("turned: ten words", x.turned(0, 0, 0, 1, 0, 0, 10), 10);
        check.due("turned: twenty-one", x.turned(0, 0, 0, 1, 0, 0, 21), -2);
        x.put(1, 20, 1);
        check.due("OUTSIDE ahead of an unknown ONE", x.means(0, 0, 1, 0, 0, 21), -2);
        check.due("turned: the same", x.turned(0, 0, 0, 1, 0, 0, 21), -2);
    }

    private static void onlyTheCellsOfTheRow() {
        LivingNumbers x = people();
        Check.fill(x, 1, 2, 5, 0, 0, -1);
        both(x, 14, 0, 15, 1, 2, 1, 2, 2);
        both(x, 0, 0, 15, 1, 2, 1, 0, 0);
        LivingNumbers none = new LivingNumbers();
        none.sheet(1, 2, 1);
        both(none, 0, 0, 0, 1, 2, 0, 0, 0);
        both(none, 0, 0, 0, 1, 2, 1, 0, 0);
        both(none, -1, 0, 0, 1, 2, 0, 1, -1);
    }

    private static void both(LivingNumbers x, int want, int village, int day, int sheet, int lane, int i, int n) {
        both(x, want, village, day, sheet, lane, i, n, want);
    }

    /** The other DAY is one that there is, so that turned() is refused for what means() is refused for. */
    private static void both(LivingNumbers x, int want, int village, int day, int sheet, int lane, int i, int n,
            int turned) {
        String call = village + " " + day + " " + sheet + " " + lane + " " + i + " " + n;
        check.due("means " + call, x.means(village, day, sheet, lane, i, n), want);
        int fault = want <= -11 ? -10 - want : 0;
        check.due("its fault", x.fault(), fault);
        x.as(0, 1);
        check.due("turned " + call, x.turned(village, day, Math.floorMod(day, 110), sheet, lane, i, n), turned);
        check.due("its fault", x.fault(), fault);
    }

    private static void refusals() {
        LivingNumbers x = people();
        for (int out : new int[] {-1, 2, Check.LEAST, Check.MOST}) {
            both(x, -1, out, 110, 9, 9, -1, -1);
        }
        for (int out : new int[] {-1, 4, Check.LEAST, Check.MOST}) {
            both(x, -1, 0, 110, out, 9, -1, -1);
        }
        for (int out : new int[] {-1, 110, Check.LEAST, Check.MOST}) {
            both(x, -2, 0, out, 1, 0, -1, -1);
            check.due("turned: the other DAY", x.turned(0, 0, out, 1, 0, -1, -1), -2);
        }
        for (int out : new int[] {-1, 3, Check.LEAST, Check.MOST}) {
            both(x, -2, 0, 0, 1, out, -1, -1);
        }
    }

    private static void faults() {
        LivingNumbers x = people();
        both(x, Check.NULL, 0, 0, 1, 0, -1, -1);
        Check.fill(x, 1, 2, 0, 5, 0);
        both(x, Check.CAST, 0, 0, 1, 0, -1, -1);
        both(x, Check.SIZE, 0, 0, 1, 2, -1, -1);
        both(x, Check.INDEX, 0, 0, 1, 2, -1, 0);
        both(x, Check.INDEX, 0, 0, 1, 2, 4, 0);
        both(x, Check.INDEX, 0, 0, 1, 2, 0, 21);
        both(x, Check.INDEX, 0, 0, 1, 2, 2, Check.MOST);
        both(x, 0, 0, 0, 1, 2, 3, 0);
        both(x, -1, 0, 0, 1, 2, 0, 3);
        check.due("an unknown ONE ahead of one that does not live", x.means(1, 0, 1, 2, 0, 3), -1);
        check.due("turned: the same", x.turned(1, 0, 0, 1, 2, 0, 3), -1);
        x.put(1, 1, -1);
        both(x, -1, 0, 0, 1, 2, 0, 3);
    }

    private static void saying(LivingNumbers x, int quantity, int village, int day, int... row) {
        check.due("say " + quantity, x.say(quantity, village, day, -1), row.length);
        for (int k = 0; k < row.length; k++) {
            check.due("say " + quantity + " at " + k, x.say(quantity, village, day, k), row[k]);
        }
        check.due("say " + quantity + " behind", x.say(quantity, village, day, row.length), -9);
        check.due("say " + quantity + " far behind", x.say(quantity, village, day, Check.MOST), -9);
    }

    private static void say() {
        LivingNumbers x = people();
        saying(x, 0, 0, 15);
        saying(x, 41, 0, 15, 41);
        saying(x, 40, 0, 15, 12, 7, 7, 7, 7);
        saying(x, 60, 0, 15, 41, 12, 7);
        saying(x, 100, 0, 15, 41, 12, 12, 7, 7, 7, 7, 7);
        saying(x, 25, 1, 15, 20, 5);
        saying(x, 0, 1, 109);
        check.due("can't be said", x.say(1, 0, 15, -1), -9);
        check.due("can't be said, the first", x.say(1, 0, 15, 0), -9);
        check.due("with no word", x.say(5, 0, 109, -1), -9);
        LivingNumbers one = Check.of("n0010099");
        check.due("999 words", one.say(999, 0, 0, -1), 999);
        check.due("the last of them", one.say(999, 0, 0, 998), 1);
        check.due("behind them", one.say(999, 0, 0, 999), -9);
    }

    private static void sayTheGreaterWhereUnlike() {
        LivingNumbers x = Check.of("n0010099;n0050099;n0100099;n0110099;n0060099");
        saying(x, 16, 0, 0, 11, 5);
        saying(x, 12, 0, 0, 11, 1);
        saying(x, 15, 0, 0, 10, 5);
        saying(x, 21, 0, 0, 11, 10);
        saying(x, 20, 0, 0, 10, 10);
        saying(x, 27, 0, 0, 11, 11, 5);
        saying(x, 24, 0, 0, 11, 11, 1, 1);
        LivingNumbers twins = Check.of("n0040099;n0030099;n0030099;f1040099;n0010099");
        saying(twins, 6, 0, 0, 3, 3);
        saying(twins, 7, 0, 0, 4, 3);
        saying(twins, 9, 0, 0, 4, 4, 1);
    }

    private static void sayRefusals() {
        LivingNumbers x = people();
        check.due("VILLAGE first", x.say(1000, 2, 110, 0), -1);
        check.due("VILLAGE below", x.say(0, -1, 0, 0), -1);
        check.due("k ahead of QUANTITY", x.say(-1, 0, 0, -2), -1);
        check.due("k far below", x.say(0, 0, 0, Check.LEAST), -1);
        for (int out : new int[] {-1, 1000, Check.LEAST, Check.MOST}) {
            check.due("QUANTITY " + out, x.say(out, 0, 0, -1), -2);
        }
        for (int out : new int[] {-1, 110, Check.LEAST, Check.MOST}) {
            check.due("DAY " + out, x.say(0, 0, out, -1), -2);
        }
        check.due("the greatest QUANTITY", x.say(999, 0, 0, -1), -9);
    }

    private static void turned() {
        LivingNumbers x = people();
        Check.fill(x, 1, 0, 0, 1, 2, 0, 4);
        check.due("on the same day", x.turned(0, 15, 15, 1, 0, 0, 2), 2);
        check.due("24 on day 15 as 12 12", x.turned(0, 15, 15, 1, 0, 0, 3), 2);
        check.due("24 when 12 is unheard", x.turned(0, 15, 5, 1, 0, 0, 3), 4);
        check.due("41 when it lives alone", x.turned(0, 15, 45, 1, 0, 4, 1), 1);
        check.due("7 when 41 lives alone", x.turned(0, 15, 45, 1, 0, 0, 1), -9);
        check.due("nothing, on a day of no words", x.turned(0, 15, 109, 1, 0, 5, 0), 0);
        check.due("a row that means nothing", x.turned(0, 4, 15, 1, 0, 0, 3), -9);
        check.due("its fault", x.fault(), 0);
        check.due("in the other village", x.turned(1, 15, 10, 1, 0, 2, 1), 1);
        check.due("unheard there", x.turned(1, 15, 10, 1, 0, 0, 1), -9);
    }
}
