import java.util.ArrayList;
import java.util.Arrays;
import java.util.List;

/**
 * A call with good arguments, and the rungs on which other ones are held up, in the order of the document. Changes of
 * the arguments are told as places, each with its new value behind it. Each change is tried alone, ahead of each one
 * of the later rungs, and with all of the later rungs at once: the answer, fault() and all that can be seen must be as
 * is due for the first of them.
 */
final class Ladder {
    /** A call of the face, that takes its arguments from a row. */
    interface Call {
        long on(LivingNumbers x, int[] arguments);
    }

    /** No FAULT: what fault() told ahead of the call is to stay. */
    private static final int STAYS = -1;

    private record Rung(String what, long due, int fault, int[][] changes) { }

    private final Check check;
    private final String name;
    private final boolean namesFaults;
    private final Call call;
    private final int[] good;
    private final List<Rung> rungs = new ArrayList<>();
    private boolean answersLong = false;

    Ladder(Check check, String name, boolean namesFaults, Call call, int... good) {
        this.check = check;
        this.name = name;
        this.namesFaults = namesFaults;
        this.call = call;
        this.good = good;
    }

    /** From here on, LOST is due on every rung. */
    Ladder answersLong() {
        answersLong = true;
        return this;
    }

    Ladder unknown(String what, int place, int... values) {
        return refuses(what, LivingNumbers.UNKNOWN, place, values);
    }

    Ladder outside(String what, int place, int... values) {
        return refuses(what, LivingNumbers.OUTSIDE, place, values);
    }

    private Ladder refuses(String what, int answer, int place, int... values) {
        return answers(what, answer, Arrays.stream(values).mapToObj(v -> new int[] {place, v}).toArray(int[][]::new));
    }

    /** Such changes are answered so, with no FAULT. */
    Ladder answers(String what, int answer, int[]... changes) {
        return rung(what, answer, namesFaults ? 0 : STAYS, changes);
    }

    Ladder faults(String what, int fault, int[]... changes) {
        return rung(what, -10 - fault, fault, changes);
    }

    private Ladder rung(String what, int answer, int fault, int[][] changes) {
        rungs.add(new Rung(what, answersLong ? LivingNumbers.LOST : answer, fault, changes));
        return this;
    }

    /** Arguments that are just inside: they come past every rung. A call that changes nothing is told so by asks. */
    Ladder takes(boolean asks, long due, int... change) {
        Rung past = new Rung("nothing", due, namesFaults ? 0 : STAYS, new int[0][]);
        tried(past, changed(good, change), asks);
        return this;
    }

    void climb() {
        for (int at = 0; at < rungs.size(); at++) {
            Rung rung = rungs.get(at);
            for (int[] change : rung.changes()) {
                tried(rung, changed(good, change), true);
                int[] all = good;
                for (int later = rungs.size() - 1; later > at; later--) {
                    for (int[] ahead : rungs.get(later).changes()) {
                        tried(rung, changed(changed(good, ahead), change), true);
                    }
                    all = changed(all, rungs.get(later).changes()[0]);
                }
                tried(rung, changed(all, change), true);
            }
        }
    }

    private static int[] changed(int[] arguments, int[] change) {
        int[] changed = arguments.clone();
        for (int at = 0; at < change.length; at += 2) {
            changed[change[at]] = change[at + 1];
        }
        return changed;
    }

    private void tried(Rung rung, int[] arguments, boolean staysTheSame) {
        int earlier = rung.fault() == 3 ? 2 : 3;
        LivingNumbers x = Standing.withFault(earlier);
        String told = name + Arrays.toString(arguments) + ", held up by " + rung.what();
        check.due(told, call.on(x, arguments), rung.due());
        check.due(told + ": fault()", x.fault(), rung.fault() == STAYS ? earlier : rung.fault());
        if (staysTheSame) {
            check.same(told + ": what else can be seen", State.of(x), Standing.STATE);
        }
    }
}
