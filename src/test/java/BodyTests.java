/** Promises 21 to 25: bodies, kinds, trace and fault. */
public final class BodyTests {
    private static final Check check = new Check("BodyTests");

    public static void main(String[] args) {
        tell();
        mourn();
        as();
        traceWraps();
        traceStays();
        faultOfTheCallsThatNameOne();
        faultStaysThroughOthers();
        check.close();
    }

    private static LivingNumbers people() {
        return Check.of("n0071020;l1200130;f0990020;l0010001;f1500001");
    }

    private static int traced(int... bodies) {
        int trace = 0;
        for (int body : bodies) {
            trace = 31 * trace + body;
        }
        return trace;
    }

    private static void tell() {
        int[] numbers = {7, 20, 99, 1, 50};
        int[] due = {7, 120, 298, 101, 200};
        int[][] bodies = {{1}, {2, 1}, {3, 2, 1, 1}, {2, 1}, {3, 2, 1, 1}};
        for (int x = 0; x < numbers.length; x++) {
            LivingNumbers people = people();
            check.due("tell " + x, people.tell(x), due[x]);
            check.due("its trace", people.trace(), traced(bodies[x]));
            check.due("NUMBER stays", people.ofOne(x, 2), numbers[x]);
        }
        LivingNumbers people = people();
        for (int out : new int[] {-1, 5, Check.LEAST, Check.MOST}) {
            check.due("tell " + out, people.tell(out), -1);
        }
        check.due("no body was come to", people.trace(), 0);
    }

    private static void mourn() {
        int[] due = {0, 1, 80, 3, 80};
        int[] bodies = {4, 4, 5, 4, 5};
        for (int x = 0; x < due.length; x++) {
            LivingNumbers people = people();
            check.due("mourn " + x, people.mourn(x), due[x]);
            check.due("its trace", people.trace(), bodies[x]);
        }
        LivingNumbers people = people();
        for (int out : new int[] {-1, 5, Check.LEAST, Check.MOST}) {
            check.due("mourn " + out, people.mourn(out), -1);
        }
        check.due("no body was come to", people.trace(), 0);
        check.due("the last of ten", Check.of(Check.times("n0010001", 10)).mourn(9), 9);
    }

    private static void as() {
        LivingNumbers people = people();
        int[] kinds = {0, 1, 2, 1, 2};
        for (int x = 0; x < kinds.length; x++) {
            for (int kind = 0; kind < 3; kind++) {
                check.due("as " + x + " " + kind, people.as(x, kind), kind <= kinds[x] ? 1 : Check.CAST);
                check.due("its fault", people.fault(), kind <= kinds[x] ? 0 : 2);
            }
            for (int out : new int[] {-1, 3, Check.LEAST, Check.MOST}) {
                people.as(0, 2);
                check.due("as " + x + " " + out, people.as(x, out), -2);
                check.due("its fault", people.fault(), 0);
            }
        }
        for (int out : new int[] {-1, 5, Check.LEAST, Check.MOST}) {
            people.as(0, 2);
            check.due("UNKNOWN first", people.as(out, 9), -1);
            check.due("its fault", people.fault(), 0);
        }
    }

    private static void traceWraps() {
        LivingNumbers people = people();
        int trace = 0;
        for (int time = 0; time < 20; time++) {
            people.tell(2);
            people.mourn(2);
            trace = trace * 31 + 3;
            trace = ((trace * 31 + 2) * 31 + 1) * 31 + 1;
            trace = trace * 31 + 5;
            check.due("trace after " + time, people.trace(), trace);
        }
    }

    private static void traceStays() {
        LivingNumbers people = people();
        people.tell(1);
        Check.roll(people, "n0010099");
        people.lose(0);
        people.as(0, 0);
        people.say(5, 0, 0, -1);
        people.lost(0, 0, 0, 1);
        check.due("trace stays with a new roll", people.trace(), 63);
    }

    private static void names(String call, LivingNumbers x, long answer, int fault) {
        check.due("fault of " + call + ", which answered " + answer, x.fault(), fault);
        x.as(0, 2);
    }

    private static void faultOfTheCallsThatNameOne() {
        LivingNumbers x = Check.of("n0071020");
        x.as(0, 1);
        names("roll", x, x.roll(0, 1, 0, 8), 0);
        names("roll, refused", x, x.roll(4, 1, 0, 8), 0);
        names("roll, NULL", x, x.roll(1, 1, 0, 8), 1);
        names("means", x, x.means(0, 0, 0, 1, 0, 0), 0);
        names("means, refused late", x, x.means(0, 0, 0, 1, 0, 1), 0);
        names("means, CAST", x, x.means(0, 0, 0, 2, 0, 1), 2);
        names("means, SIZE", x, x.means(0, 0, 0, 1, 0, -1), 4);
        names("turned", x, x.turned(0, 0, 0, 0, 1, 0, 0), 0);
        names("turned, refused", x, x.turned(2, 0, 0, 0, 1, 0, 0), 0);
        names("turned, INDEX", x, x.turned(0, 0, 0, 0, 1, 9, 0), 3);
        names("child", x, x.child(0, 0, 1, 0, 1, 0, 0, 0), 0);
        names("child, refused late", x, x.child(0, 0, 1, 0, 1, 0, 13, 0), 3);
        names("child, NULL", x, x.child(0, 0, 1, 3, 1, 0, 0, 0), 1);
        names("written", x, x.written(0, 0, 1, 0, 0, 0), 0);
        names("written, refused", x, x.written(0, 0, 1, 0, 0, 3), 0);
        names("written, INDEX", x, x.written(0, 0, 1, -1, 0, 0), 3);
        names("sheet", x, x.sheet(2, 0, 1), 0);
        names("sheet, refused", x, x.sheet(2, 0, 101), 0);
        names("sheet, SIZE", x, x.sheet(2, 0, -1), 4);
        names("put", x, x.put(2, 0, 1), 0);
        names("put, refused", x, x.put(4, 0, 1), 0);
        names("cell", x, x.cell(2, 0, 0), 0);
        names("cell, refused", x, x.cell(2, 0, 3), 0);
        names("copy", x, x.copy(2, 0, 2, 0, 1), 0);
        names("copy, refused", x, x.copy(2, 0, 4, 0, 1), 0);
        names("copy, CAST", x, x.copy(2, 0, 0, 0, 1), 2);
    }

    private static void faultStaysThroughOthers() {
        LivingNumbers x = Check.of("n0071020");
        check.due("a CAST", x.as(0, 1), Check.CAST);
        long[] answers = {x.ofOne(0, 0), x.ofOne(9, 0), x.lives(0, 0, 0), x.lives(0, 0, -1), x.word(1, 0, 0),
            x.sayable(0, 0, -1), x.say(7, 0, 15, -1), x.say(-1, 0, 0, -1), x.both(0, 1, 0), x.both(-1, 1, 0),
            x.lost(0, 0, 0, 1), x.back(7, 0, 0, 1, -1), x.told(0, 0, 1, 0), x.told(2, 0, 1, 0), x.lose(3), x.lose(4),
            x.tell(0), x.tell(1), x.mourn(0), x.trace(), x.many(), x.fault()};
        check.due("calls that name none", answers.length, 22);
        check.due("the fault stays", x.fault(), 2);
    }
}
