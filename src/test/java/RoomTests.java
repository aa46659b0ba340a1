import java.lang.management.ManagementFactory;
import java.util.function.IntConsumer;

/** The room that a whole run of each call takes: a run shares 7.3 million cells, and should need a small part of them. */
public final class RoomTests {
    private static final int CALLS = 512;
    private static final long MOST_BYTES = 400_000, MOST_BYTES_OF_ONE = 16_000;
    private static final Check check = new Check("RoomTests");
    private static final com.sun.management.ThreadMXBean BEAN =
        (com.sun.management.ThreadMXBean) ManagementFactory.getThreadMXBean();

    private static LivingNumbers made;

    public static void main(String[] args) {
        String ten = Check.times("f0010002", 9) + ";n1990099";
        LivingNumbers x = Check.of(ten);
        Check.fill(x, 1, 2, 0, 1, 2, 999);
        room("new", CALLS * MOST_BYTES_OF_ONE, c -> made = new LivingNumbers());
        room("roll", MOST_BYTES, c -> x.roll(0, 1, 0, 89));
        room("roll with a fault", MOST_BYTES, c -> x.roll(0, 1, 0, 88));
        room("sayable", MOST_BYTES, c -> x.sayable(0, 0, c));
        room("means", MOST_BYTES, c -> x.means(0, 0, 1, 2, 0, 3));
        room("say", MOST_BYTES, c -> x.say(999, 0, 0, 998));
        room("turned", MOST_BYTES, c -> x.turned(0, 0, 0, 1, 2, 0, 3));
        room("child", MOST_BYTES, c -> x.child(0, 0, 9, 1, 2, 0, 4, 0));
        room("both", MOST_BYTES, c -> x.both(1, 9, c % 110));
        room("written", MOST_BYTES, c -> x.written(0, 1, 2, 0, 3, 0));
        room("lost", MOST_BYTES, c -> x.lost(0, 0, 0, 9));
        room("back", MOST_BYTES, c -> x.back(999, 1, 109, 9, -1));
        room("told", MOST_BYTES, c -> x.told(0, 0, 9, 0));
        room("sheet", MOST_BYTES, c -> x.sheet(2, c % 3, 100));
        room("copy", MOST_BYTES, c -> x.copy(0, 0, 0, 1, 80));
        room("tell", MOST_BYTES, c -> x.tell(c % 10));
        check.holds("an object was made", made != null);
        check.close();
    }

    private static void room(String call, long most, IntConsumer calls) {
        calls.accept(0);
        long before = BEAN.getCurrentThreadAllocatedBytes();
        for (int c = 0; c < CALLS; c++) {
            calls.accept(c);
        }
        long took = BEAN.getCurrentThreadAllocatedBytes() - before;
        if (took > most) {
            System.out.println(call + " took " + took + " bytes");
        }
        check.holds("room of " + call, took <= most);
    }
}
