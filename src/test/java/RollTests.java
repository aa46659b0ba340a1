/** Promises 1 to 6 and 26. */
public final class RollTests {
    private static final String PEOPLE = "n0070040;l0121030;f1050520;n1200099;n0411050";
    private static final Check check = new Check("RollTests");

    public static void main(String[] args) {
        aNewObject();
        rollsOfAllSizes();
        firstFaults();
        rollTakesCellsOfASheet();
        rollRefusals();
        rollFaults();
        rollThatFailsChangesNothing();
        ofOne();
        lives();
        word();
        sayable();
        check.close();
    }

    private static void aNewObject() {
        LivingNumbers x = new LivingNumbers();
        check.due("new: many", x.many(), 0);
        check.due("new: trace", x.trace(), 0);
        check.due("new: fault", x.fault(), 0);
        check.due("new: ofOne", x.ofOne(0, 0), -1);
        check.due("new: sayable", x.sayable(1, 0, -1), 0);
        for (int k = 0; k < 4; k++) {
            check.due("new: lose " + k, x.lose(k), 0);
            check.due("new: put " + k, x.put(k, 0, 1), Check.NULL);
        }
    }

    private static void rollsOfAllSizes() {
        for (int n = 1; n <= 10; n++) {
            LivingNumbers x = new LivingNumbers();
            check.due("roll of " + n, Check.roll(x, Check.times("n0010099", n)), n);
            check.due("many of " + n, x.many(), n);
            check.due("the last of " + n, x.ofOne(n - 1, 2), 1);
            check.due("behind the last of " + n, x.ofOne(n, 2), -1);
        }
        LivingNumbers x = Check.of(Check.times("n0010099", 10));
        check.due("a shorter roll", Check.roll(x, "l1990001"), 1);
        check.due("many of a shorter roll", x.many(), 1);
        check.due("kind in a shorter roll", x.ofOne(0, 0), 1);
        check.due("ONE 1 is gone", x.lives(1, 0, 0), -1);
    }

    private static void fault(String text, int place) {
        check.due("first fault of '" + text + "'", Check.roll(new LivingNumbers(), text), -100 - place);
    }

    private static void firstFaults() {
        fault("", 0);
        for (String letter : new String[] {"x", "N", "m", "o", "k", "e", "g", ";", "0"}) {
            fault(letter, 0);
            fault(letter + "0010001", 0);
        }
        fault("n", 1);
        for (String village : new String[] {"2", "/", "n", ";", "9"}) {
            fault("n" + village, 1);
        }
        fault("n0", 2);
        fault("n0:", 2);
        fault("n0/", 2);
        fault("n00", 3);
        fault("n000", 2);
        fault("n0000001", 2);
        fault("n00x", 3);
        fault("n09;", 3);
        fault("n001", 4);
        fault("n001x", 4);
        fault("n0019", 5);
        fault("n0019x", 5);
        fault("n00199", 4);
        fault("n0019999", 4);
        fault("n00100", 6);
        fault("n00198", 6);
        aTillThatIsNotAbove();
        behindAOne();
    }

    private static void aTillThatIsNotAbove() {
        fault("n0010000", 6);
        fault("n0015050", 6);
        fault("n0015049", 6);
        fault("n001504", 6);
        fault("n001504x", 6);
        fault("n001595", 6);
        fault("n0015959", 6);
        fault("n001505", 7);
        fault("n001505x", 7);
        fault("n001505:", 7);
        fault("n00150x", 6);
        fault("n0019898", 6);
        check.due("TILL just above", Check.roll(new LivingNumbers(), "n0015051"), 1);
        check.due("the last TILL", Check.roll(new LivingNumbers(), "f1999899"), 1);
    }

    private static void behindAOne() {
        fault("n0010001;", 9);
        fault("n0010001x", 8);
        fault("n00100010", 8);
        fault("n0010001:", 8);
        fault("n0010001n", 8);
        fault("n0010001;;", 9);
        fault("n0010001;n0020000", 15);
        fault("n0010001;l1020", 14);
        fault("n0010001;f0000001", 11);
        String ten = Check.times("n0010001", 10);
        fault(ten + ";", 89);
        fault(ten + "x", 89);
        fault(ten + ";n0010001", 89);
        fault(ten.substring(0, 88), 88);
        fault(ten.substring(0, 81), 81);
        check.due("nine of ten", Check.roll(new LivingNumbers(), ten.substring(0, 80)), 9);
    }

    private static void rollTakesCellsOfASheet() {
        for (int lane = 0; lane < 3; lane++) {
            LivingNumbers x = new LivingNumbers();
            Check.fill(x, 3, lane, Check.codes("zzn1230456;zz"));
            check.due("from cell 2 on, lane " + lane, x.roll(3, lane, 2, 8), 1);
            check.due("its NUMBER", x.ofOne(0, 2), 23);
            check.due("ends too soon", x.roll(3, lane, 2, 9), -109);
            check.due("the place is told of the text", x.roll(3, lane, 1, 3), -100);
            check.due("none of its cells", x.roll(3, lane, 13, 0), -100);
            x.put(3, 2, 'n' + 256);
            check.due("a code that is cut, lane " + lane, x.roll(3, lane, 2, 8), lane == 0 ? 1 : -100);
        }
    }

    private static void rollRefusals() {
        LivingNumbers x = new LivingNumbers();
        for (int k : new int[] {-1, 4, Check.LEAST, Check.MOST}) {
            check.due("sheet " + k, x.roll(k, 9, -1, -1), -1);
        }
        for (int lane : new int[] {-1, 3, Check.LEAST, Check.MOST}) {
            check.due("lane " + lane, x.roll(0, lane, -1, -1), -2);
        }
        check.due("a refusal is no fault", x.fault(), 0);
    }

    private static void rollFaults() {
        LivingNumbers x = new LivingNumbers();
        check.due("nothing is no CAST", x.roll(2, 0, -1, -1), Check.NULL);
        check.due("fault of it", x.fault(), 1);
        x.sheet(2, 1, 8);
        check.due("CAST ahead of SIZE", x.roll(2, 0, -1, -1), Check.CAST);
        check.due("fault of it", x.fault(), 2);
        check.due("SIZE ahead of INDEX", x.roll(2, 1, -1, -1), Check.SIZE);
        check.due("fault of it", x.fault(), 4);
        int[][] beyond = {{-1, 0}, {9, 0}, {0, 9}, {1, 8}, {8, 1}, {Check.MOST, 1}, {1, Check.MOST}, {Check.LEAST, 0},
            {Check.MOST, Check.MOST}, {-1, 1}};
        for (int[] at : beyond) {
            check.due("INDEX " + at[0] + " " + at[1], x.roll(2, 1, at[0], at[1]), Check.INDEX);
            check.due("fault of it", x.fault(), 3);
        }
        check.due("just in", x.roll(2, 1, 8, 0), -100);
        check.due("a FIRST FAULT is none of the machine's", x.fault(), 0);
    }

    private static void rollThatFailsChangesNothing() {
        LivingNumbers x = Check.of(PEOPLE);
        check.due("a text with a fault", Check.roll(x, "f1990001;x"), -109);
        check.due("an unknown sheet", x.roll(4, 0, 0, 0), -1);
        check.due("a lane outside", x.roll(0, 3, 0, 0), -2);
        check.due("a CAST", x.roll(0, 0, 0, 0), Check.CAST);
        check.due("many stays", x.many(), 5);
        check.due("ONE 0 stays", x.ofOne(0, 2), 7);
        x.lose(0);
        check.due("the roll outlives its sheet", x.ofOne(4, 2), 41);
    }

    private static void ofOne() {
        LivingNumbers x = Check.of(PEOPLE);
        int[][] parts = {{0, 0, 7, 0, 40}, {1, 0, 12, 10, 30}, {2, 1, 5, 5, 20}, {0, 1, 20, 0, 99}, {0, 0, 41, 10, 50}};
        for (int one = 0; one < parts.length; one++) {
            for (int what = 0; what < 5; what++) {
                check.due("ofOne " + one + " " + what, x.ofOne(one, what), parts[one][what]);
            }
            check.due("what -1", x.ofOne(one, -1), -2);
            check.due("what 5", x.ofOne(one, 5), -2);
        }
        check.due("UNKNOWN first", x.ofOne(5, 9), -1);
        check.due("UNKNOWN below", x.ofOne(-1, 0), -1);
        check.due("UNKNOWN far", x.ofOne(Check.MOST, 0), -1);
    }

    private static void lives() {
        LivingNumbers x = Check.of("n0072040;l1122040;f1052040;l0019899");
        int[][] days = {{19, 0, 0, 0}, {20, 1, 1, 1}, {39, 1, 1, 1}, {40, 0, 1, 1}, {49, 0, 1, 1}, {50, 0, 0, 0},
            {0, 0, 0, 0}, {109, 0, 0, 0}};
        for (int[] day : days) {
            check.due("NAMED at home " + day[0], x.lives(0, 0, day[0]), day[1]);
            check.due("NAMED abroad " + day[0], x.lives(0, 1, day[0]), 0);
            check.due("LENT at home " + day[0], x.lives(1, 1, day[0]), day[2]);
            check.due("LENT abroad " + day[0], x.lives(1, 0, day[0]), 0);
            check.due("FOREIGN at home " + day[0], x.lives(2, 1, day[0]), day[3]);
            check.due("FOREIGN abroad " + day[0], x.lives(2, 0, day[0]), day[3]);
        }
        check.due("the last DAY of any", x.lives(3, 0, 108), 1);
        check.due("behind it", x.lives(3, 0, 109), 0);
        check.due("ONE ahead of DAY", x.lives(4, 0, 110), -1);
        check.due("ONE below", x.lives(-1, 0, 0), -1);
        check.due("VILLAGE ahead of DAY", x.lives(0, 2, -1), -1);
        check.due("VILLAGE below", x.lives(0, -1, 0), -1);
        check.due("DAY beyond", x.lives(0, 0, 110), -2);
        check.due("DAY below", x.lives(0, 0, -1), -2);
    }

    private static void word() {
        LivingNumbers x = Check.of("n0301020;n0300050;n1300050;f0070010;n0990009");
        check.due("of the least number", x.word(30, 0, 10), 0);
        check.due("ahead of its day", x.word(30, 0, 9), 1);
        check.due("behind its day", x.word(30, 0, 20), 1);
        check.due("in the other village", x.word(30, 1, 10), 2);
        check.due("a foreign one", x.word(7, 1, 19), 3);
        check.due("NUMBER 99", x.word(99, 0, 0), 4);
        check.due("none", x.word(1, 0, 10), -9);
        check.due("dead", x.word(30, 0, 50), -9);
        check.due("VILLAGE first", x.word(0, 2, 110), -1);
        check.due("VILLAGE below", x.word(1, -1, 0), -1);
        check.due("NUMBER 0", x.word(0, 0, 0), -2);
        check.due("NUMBER 100", x.word(100, 0, 0), -2);
        check.due("DAY 110", x.word(30, 0, 110), -2);
        check.due("DAY -1", x.word(30, 0, -1), -2);
        check.due("DAY 109", x.word(30, 0, 109), -9);
    }

    private static void sayable() {
        LivingNumbers x = Check.of("n0900050;n0070050;f1300050;n0070050;n1010050");
        check.due("how many", x.sayable(0, 0, -1), 3);
        check.due("the least", x.sayable(0, 0, 0), 7);
        check.due("the next", x.sayable(0, 0, 1), 30);
        check.due("the greatest", x.sayable(0, 0, 2), 90);
        check.due("there are fewer", x.sayable(0, 0, 3), -9);
        check.due("there are far fewer", x.sayable(0, 0, Check.MOST), -9);
        check.due("in the other village", x.sayable(1, 0, -1), 2);
        check.due("its least", x.sayable(1, 0, 0), 1);
        check.due("only the lent one", x.sayable(0, 55, -1), 1);
        check.due("NUMBER 99", Check.of("n0990001").sayable(0, 0, 0), 99);
        check.due("none", x.sayable(0, 109, -1), 0);
        check.due("none to tell", x.sayable(0, 109, 0), -9);
        check.due("VILLAGE ahead of DAY", x.sayable(2, 110, 0), -1);
        check.due("k ahead of DAY", x.sayable(0, 110, -2), -1);
        check.due("k far below", x.sayable(0, 0, Check.LEAST), -1);
        check.due("DAY 110", x.sayable(0, 110, -1), -2);
        check.due("DAY -1", x.sayable(1, -1, 0), -2);
    }
}
