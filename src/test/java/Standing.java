import java.util.Arrays;

/**
 * An object with people and sheets of each LANE: three PEOPLE, one of each kind, all from 20 till 40; their text in
 * sheet 0 (bytes); rows of PEOPLE in sheet 1 (shorts), with no such ONE in its last two cells; BARGAINS in sheet 2
 * (ints), with none in its first two cells; nothing in sheet 3.
 */
final class Standing {
    static final String TEXT = "n0072040;l1122040;f1052040";
    static final int TEXT_CELLS = 26, ROW_CELLS = 24, BARGAIN_CELLS = 15;
    /** That it takes to make one. */
    static final int CALLS = TEXT_CELLS + ROW_CELLS + BARGAIN_CELLS + 5;

    static final State STATE = State.of(made());

    private Standing() {
    }

    static LivingNumbers made() {
        LivingNumbers x = new LivingNumbers();
        Check.fill(x, 0, 0, Check.codes(TEXT));
        x.roll(0, 0, 0, TEXT_CELLS);
        int[] row = new int[ROW_CELLS];
        row[1] = 2;
        row[22] = 3;
        row[23] = -1;
        Check.fill(x, 1, 1, row);
        int[] bargains = new int[BARGAIN_CELLS];
        Arrays.fill(bargains, 12);
        bargains[0] = 1000;
        bargains[1] = -1;
        bargains[2] = 999;
        bargains[14] = 0;
        Check.fill(x, 2, 2, bargains);
        x.tell(2);
        return x;
    }

    /** The latest call that names FAULTS came to this one. */
    static LivingNumbers withFault(int fault) {
        LivingNumbers x = made();
        if (fault == 2) {
            x.as(0, 2);
        } else if (fault == 3) {
            x.put(0, -1, 0);
        }
        return x;
    }
}
