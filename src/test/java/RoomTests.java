import java.lang.management.ManagementFactory;

/**
 * The room that a run of each call takes, with those ahead of it no more than an object's 512: all runs share 7.3
 * million cells, and one should need a small part of them.
 */
public final class RoomTests {
    /** A call of each kind, with an object of its own. */
    private interface Call {
        void on(LivingNumbers x, int c);
    }

    private static final int CALLS = 400;
    private static final long MOST_BYTES = 400_000, MOST_BYTES_OF_ONE = 16_000;
    private static final Check check = new Check("RoomTests");
    private static final com.sun.management.ThreadMXBean BEAN =
        (com.sun.management.ThreadMXBean) ManagementFactory.getThreadMXBean();

    private static LivingNumbers made;

    public static void main(String[] args) {
        room("new", CALLS * MOST_BYTES_OF_ONE, (x, c) -> made = new LivingNumbers());
        room("roll", MOST_BYTES, (x, c) -> x.roll(0, 1, 0, 89));
        room("roll with a fault", MOST_BYTES, (x, c) -> x.roll(0, 1, 0, 88));
        room("sayable", MOST_BYTES, (x, c) -> x.sayable(0, 0, c));
        room("means", MOST_BYTES, (x, c) -> x.means(0, 0, 1, 2, 0, 3));
        room("say", MOST_BYTES, (x, c) -> x.say(999, 0, 0, 998));
        room("turned", MOST_BYTES, (x, c) -> x.turned(0, 0, 0, 1, 2, 0, 3));
        room("child", MOST_BYTES, (x, c) -> x.child(0, 0, 9, 1, 2, 0, 4, 0));
        room("both", MOST_BYTES, (x, c) -> x.both(1, 9, c % 110));
        room("written", MOST_BYTES, (x, c) -> x.written(0, 1, 2, 0, 3, 0));
        room("lost", MOST_BYTES, (x, c) -> x.lost(0, 0, 0, 9));
        room("back", MOST_BYTES, (x, c) -> x.back(999, 1, 109, 9, -1));
        room("told", MOST_BYTES, (x, c) -> x.told(0, 0, 9, 0));
        room("sheet", MOST_BYTES, (x, c) -> x.sheet(2, c % 3, 100));
        room("copy", MOST_BYTES, (x, c) -> x.copy(0, 0, 0, 1, 80));
        room("tell", MOST_BYTES, (x, c) -> x.tell(c % 10));
        check.holds("an object was made", made != null);
        check.close();
    }

    private static void room(String name, long most, Call call) {
        LivingNumbers x = Check.of(Check.times("f0010002", 9) + ";n1990099");
        Check.fill(x, 1, 2, 0, 1, 2, 999);
        call.on(x, 0);
        long before = BEAN.getCurrentThreadAllocatedBytes();
        for (int c = 0; c < CALLS; c++) {
            call.on(x, c);
        }
        long took = BEAN.getCurrentThreadAllocatedBytes() - before;
        if (took > most) {
            System.out.println(name + " took " + took + " bytes");
        }
        check.holds("room of " + name, took <= most);
    }
}
