/** Promises 10 to 12: children, trade, books. */
public final class TradeTests {
    private static final Check check = new Check("TradeTests");

    public static void main(String[] args) {
        child();
        childEdges();
        childRefusals();
        childFaults();
        both();
        bothRefusals();
        written();
        writtenRefusals();
        writtenFaults();
        check.close();
    }

    private static LivingNumbers people() {
        return Check.of("n0070040;l0121030;f1050520;n1200099;n0411050");
    }

    private static void child(LivingNumbers x, int day, int w, int number, int said, int... bargains) {
        for (int lane = 1; lane < 3; lane++) {
            Check.fill(x, 1, lane, bargains);
            int n = bargains.length;
            check.due("child on " + day + " by " + w, x.child(0, day, w, 1, lane, 0, n, 0), number);
            check.due("bargains on " + day + " by " + w, x.child(0, day, w, 1, lane, 0, n, 1), said);
        }
    }

    private static void child() {
        LivingNumbers x = people();
        child(x, 15, 1, 1, 1, 100, 61, 8, 33, 1);
        child(x, 15, 2, 1, 2, 100, 61, 8, 33, 1);
        child(x, 15, 9, 1, 5, 100, 61, 8, 33, 1);
        child(x, 109, 1, 30, 2, 30, 31, 30);
        child(x, 109, 2, 15, 3, 30, 15, 30);
        child(x, 109, 3, 10, 2, 30, 20, 15);
        child(x, 109, 1, 98, 2, 99, 98, 98, 200);
        child(x, 109, 1, 99, 2, 99, 99, 98);
        child(x, 109, 9, 99, 1, 891);
        child(x, 109, 9, 1, 0, 892, 999);
        child(x, 109, 9, 1, 1, 0);
        child(x, 109, 1, 1, 2, 0, 0, 500);
        child(x, 45, 2, 2, 2, 43, 39 + 2 * 2, 500);
        child(x, 45, 3, 1, 2, 43, 42, 500);
    }

    private static void childEdges() {
        LivingNumbers x = people();
        child(x, 15, 2, 1, 0);
        child(x, 15, 1, 1, 12, 7, 7, 7, 7, 7, 7, 7, 7, 7, 7, 7, 41);
        Check.fill(x, 1, 0, 99, 41, 99, 99, 5);
        check.due("cells of a byte sheet", x.child(0, 15, 1, 1, 0, 1, 3, 0), 99);
        check.due("their bargains", x.child(0, 15, 1, 1, 0, 1, 3, 1), 3);
        check.due("none of the cells", x.child(0, 15, 1, 1, 0, 5, 0, 1), 0);
        check.due("no word is given: it can still be said by none", x.word(99, 0, 15), -9);
        LivingNumbers one = Check.of("n0010099");
        Check.fill(one, 1, 1, 9);
        check.due("a number that another bears, too", one.child(0, 0, 9, 1, 1, 0, 1, 0), 1);
        check.due("its bargains", one.child(0, 0, 9, 1, 1, 0, 1, 1), 1);
        check.due("in the other village", one.child(1, 0, 2, 1, 1, 0, 1, 0), 9);
    }

    private static void childRefusals() {
        LivingNumbers x = people();
        for (int out : new int[] {-1, 2, Check.MOST}) {
            check.due("VILLAGE " + out, x.child(out, 110, 0, 9, 9, -1, -1, 9), -1);
        }
        for (int out : new int[] {-1, 4, Check.LEAST}) {
            check.due("SHEET " + out, x.child(0, 110, 0, out, 9, -1, -1, 9), -1);
        }
        for (int out : new int[] {-1, 110}) {
            check.due("DAY " + out, x.child(0, out, 1, 1, 0, -1, -1, 0), -2);
        }
        for (int out : new int[] {-1, 0, 10, Check.MOST}) {
            check.due("w " + out, x.child(0, 0, out, 1, 0, -1, -1, 0), -2);
        }
        for (int out : new int[] {-1, 2, Check.LEAST}) {
            check.due("what " + out, x.child(0, 0, 1, 1, 0, -1, -1, out), -2);
        }
        for (int out : new int[] {-1, 3}) {
            check.due("lane " + out, x.child(0, 0, 1, 1, out, -1, -1, 0), -2);
        }
        check.due("a refusal is no fault", x.fault(), 0);
    }

    private static void childFaults() {
        LivingNumbers x = people();
        check.due("NULL", x.child(0, 0, 1, 1, 0, -1, -1, 0), Check.NULL);
        Check.fill(x, 1, 2, 1, 1000, 2, -1, 999, 3, 4, 5, 6, 7, 8, 9, 10, 11, 12, 13, 14);
        check.due("CAST", x.child(0, 0, 1, 1, 0, -1, -1, 0), Check.CAST);
        check.due("fault", x.fault(), 2);
        check.due("SIZE", x.child(0, 0, 1, 1, 2, -1, -1, 0), Check.SIZE);
        check.due("fault", x.fault(), 4);
        check.due("INDEX", x.child(0, 0, 1, 1, 2, 18, 0, 0), Check.INDEX);
        check.due("INDEX ahead of n", x.child(0, 0, 1, 1, 2, 0, 18, 0), Check.INDEX);
        check.due("fault", x.fault(), 3);
        check.due("n 13", x.child(0, 0, 1, 1, 2, 4, 13, 0), -2);
        check.due("fault", x.fault(), 0);
        check.due("n 12", x.child(0, 0, 9, 1, 2, 4, 12, 1), 11);
        check.due("a BARGAIN 1000", x.child(0, 0, 1, 1, 2, 0, 2, 0), -2);
        check.due("a BARGAIN -1", x.child(0, 0, 1, 1, 2, 2, 2, 0), -2);
        check.due("the first BARGAIN 1000", x.child(0, 0, 1, 1, 2, 1, 2, 0), -2);
        check.due("the first BARGAIN -1", x.child(0, 0, 1, 1, 2, 3, 2, 0), -2);
        check.due("a BARGAIN 999", x.child(0, 0, 1, 1, 2, 4, 1, 1), 0);
        check.due("1000 behind the last BARGAIN", x.child(0, 0, 1, 1, 2, 0, 1, 1), 1);
        check.due("1000 ahead of the first, -1 behind", x.child(0, 0, 1, 1, 2, 2, 1, 1), 1);
        check.due("none, where -1 would be the next", x.child(0, 0, 1, 1, 2, 3, 0, 1), 0);
    }

    private static void both() {
        LivingNumbers x = people();
        check.due("0", x.both(0, 1, 15), 0);
        check.due("0 with no words", x.both(0, 1, 109), 0);
        check.due("1 with no words", x.both(1, 9, 109), -9);
        check.due("from 1 on", x.both(1, 1, 15), 5);
        check.due("from 6 on, by one", x.both(6, 1, 15), -9);
        check.due("from 6 on, by two", x.both(6, 2, 15), 10);
        check.due("from 11 on, by two", x.both(11, 2, 15), -9);
        check.due("from 11 on, by three", x.both(11, 3, 15), 15);
        check.due("from 50 on", x.both(50, 3, 15), 60);
        LivingNumbers foreign = Check.of("f0990099");
        check.due("the greatest by nine", foreign.both(793, 9, 0), 891);
        check.due("itself", foreign.both(891, 9, 0), 891);
        check.due("beyond", foreign.both(892, 9, 0), -9);
        LivingNumbers far = Check.of("f0990099;f0120099;n0900099;n1900099");
        check.due("one village is not enough", far.both(103, 2, 0), 111);
        LivingNumbers villages = Check.of("n0040099;n1060099");
        check.due("each by its own", villages.both(1, 3, 0), 12);
        check.due("each by its own, two words", villages.both(1, 2, 0), -9);
        check.due("the next", villages.both(13, 6, 0), 24);
    }

    private static void bothRefusals() {
        LivingNumbers x = people();
        for (int out : new int[] {-1, 1000, Check.LEAST, Check.MOST}) {
            check.due("q " + out, x.both(out, 1, 0), -2);
        }
        for (int out : new int[] {-1, 0, 10, Check.LEAST, Check.MOST}) {
            check.due("w " + out, x.both(0, out, 0), -2);
        }
        for (int out : new int[] {-1, 110, Check.LEAST, Check.MOST}) {
            check.due("DAY " + out, x.both(0, 1, out), -2);
        }
        check.due("the greatest q", x.both(999, 1, 0), -9);
    }

    private static void book(LivingNumbers x, int village, int i, int n, int days, int first, int last) {
        check.due("days of " + i + " " + n, x.written(village, 1, 0, i, n, 0), days);
        check.due("first of " + i + " " + n, x.written(village, 1, 0, i, n, 1), first);
        check.due("last of " + i + " " + n, x.written(village, 1, 0, i, n, 2), last);
    }

    private static void written() {
        LivingNumbers x = people();
        Check.fill(x, 1, 0, 0, 1, 2, 0, 4, 3);
        book(x, 0, 0, 5, 20, 10, 29);
        book(x, 0, 0, 1, 40, 0, 39);
        book(x, 0, 1, 1, 30, 10, 39);
        book(x, 1, 2, 1, 25, 5, 29);
        book(x, 0, 2, 1, 25, 5, 29);
        book(x, 1, 5, 1, 99, 0, 98);
        book(x, 0, 6, 0, 110, 0, 109);
        book(x, 0, 5, 1, 0, -9, -9);
        book(x, 1, 0, 2, 0, -9, -9);
        LivingNumbers apart = Check.of("n0010010;n0021020;l0030010;n0021925");
        Check.fill(apart, 1, 0, 0, 1, 2, 3);
        book(apart, 0, 0, 2, 0, -9, -9);
        book(apart, 0, 1, 2, 10, 10, 19);
        book(apart, 0, 2, 2, 1, 19, 19);
        LivingNumbers last = Check.of("l1019899");
        Check.fill(last, 1, 0, 0);
        book(last, 1, 0, 1, 11, 98, 108);
    }

    private static void writtenRefusals() {
        LivingNumbers x = people();
        for (int out : new int[] {-1, 2, Check.MOST}) {
            check.due("VILLAGE " + out, x.written(out, 9, 9, -1, -1, 9), -1);
        }
        for (int out : new int[] {-1, 4, Check.LEAST}) {
            check.due("SHEET " + out, x.written(0, out, 9, -1, -1, 9), -1);
        }
        for (int out : new int[] {-1, 3, Check.MOST}) {
            check.due("what " + out, x.written(0, 1, 0, -1, -1, out), -2);
            check.due("lane " + out, x.written(0, 1, out, -1, -1, 0), -2);
        }
        check.due("a refusal is no fault", x.fault(), 0);
    }

    private static void writtenFaults() {
        LivingNumbers x = people();
        check.due("NULL", x.written(0, 1, 0, -1, -1, 0), Check.NULL);
        Check.fill(x, 1, 1, new int[22]);
        x.put(1, 20, 5);
        x.put(1, 21, -1);
        check.due("CAST", x.written(0, 1, 0, -1, -1, 0), Check.CAST);
        check.due("SIZE", x.written(0, 1, 1, -1, -1, 0), Check.SIZE);
        check.due("fault", x.fault(), 4);
        check.due("INDEX", x.written(0, 1, 1, 23, 0, 0), Check.INDEX);
        check.due("INDEX ahead of n", x.written(0, 1, 1, 0, 23, 0), Check.INDEX);
        check.due("n 21 ahead of a ONE", x.written(0, 1, 1, 0, 21, 0), -2);
        check.due("fault", x.fault(), 0);
        check.due("n 20", x.written(0, 1, 1, 0, 20, 0), 40);
        check.due("an unknown ONE", x.written(0, 1, 1, 1, 20, 0), -1);
        check.due("an unknown ONE below", x.written(0, 1, 1, 21, 1, 0), -1);
        check.due("an unknown ONE ahead of the row and behind", x.written(0, 1, 1, 21, 0, 0), 110);
    }
}
