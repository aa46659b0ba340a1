/**
 * Numbers that belong to the living: a people whose number words are names of its people.
 * The public methods look for refusals and faults; the classes inside know the rest.
 */
public final class LivingNumbers {
    public static final int UNKNOWN = -1, OUTSIDE = -2, NONE = -9;
    public static final long LOST = Long.MIN_VALUE;

    private static final int NULL = 1, CAST = 2, INDEX = 3, SIZE = 4;
    private static final int FAULT_BASE = -10, PLACE_BASE = -100;

    private static final int VILLAGES = 2, DAYS = 110;
    private static final int SHEETS = 4, LANES = 3, MOST_CELLS = 100;
    private static final int MOST_PEOPLE = 10, KINDS = 3, PARTS = 5;
    private static final int MOST_IN_ROW = 20, MOST_BARGAINS = 12, MOST_CALLED = 3;
    private static final int QUANTITIES = 1000, MOST_NUMBER = 99, MOST_WORDS = 9;
    private static final int NO_ONE = -1;

    /** Above any number of words that a quantity takes, and far from where adding to it would wrap. */
    private static final int NEVER = 1_000_000;

    private final Sheets sheets = new Sheets();
    private final RollText text = new RollText();
    private final People people = new People();
    private final Trace traced = new Trace();
    private final Fewest fewest = new Fewest();
    private final Fewest compared = new Fewest();
    private final Recall recall = new Recall();
    private int latestFault = 0;

    public LivingNumbers() {
    }

    // ---- 1 the roll

    public int roll(int sheet, int lane, int i, int n) {
        int refused = refusalOfCells(0, sheet, false, lane, i, n);
        if (refused < 0) {
            return refused;
        }
        text.read(sheets, sheet, i, n);
        int place = text.firstFault();
        if (place >= 0) {
            return PLACE_BASE - place;
        }
        people.takeFrom(text);
        return people.size();
    }

    public int ofOne(int x, int what) {
        Named one = people.one(x);
        if (one == null) {
            return UNKNOWN;
        }
        return what < 0 || what >= PARTS ? OUTSIDE : one.part(what);
    }

    public int lives(int x, int village, int day) {
        Named one = people.one(x);
        if (one == null || !isVillage(village)) {
            return UNKNOWN;
        }
        if (!isDay(day)) {
            return OUTSIDE;
        }
        return one.isHeard(village, day) ? 1 : 0;
    }

    public int word(int number, int village, int day) {
        if (!isVillage(village)) {
            return UNKNOWN;
        }
        if (number < 1 || number > MOST_NUMBER || !isDay(day)) {
            return OUTSIDE;
        }
        return people.bearer(number, village, day);
    }

    public int sayable(int village, int day, int k) {
        if (!isVillage(village) || k < -1) {
            return UNKNOWN;
        }
        if (!isDay(day)) {
            return OUTSIDE;
        }
        int found = 0;
        for (int number = 1; number <= MOST_NUMBER; number++) {
            if (people.bearer(number, village, day) != NONE) {
                if (found == k) {
                    return number;
                }
                found++;
            }
        }
        return k == -1 ? found : NONE;
    }

    // ---- 2 rows of words

    public int means(int village, int day, int sheet, int lane, int i, int n) {
        int refused = refusalOfRow(village, sheet, !isDay(day), lane, i, n);
        return refused < 0 ? refused : meaning(sheet, i, n, village, day);
    }

    public int say(int quantity, int village, int day, int k) {
        if (!isVillage(village) || k < -1) {
            return UNKNOWN;
        }
        if (!isQuantity(quantity) || !isDay(day)) {
            return OUTSIDE;
        }
        int words = fewestWords(quantity, village, day);
        if (k == -1 || words == NONE) {
            return words;
        }
        return k < words ? numberAt(k, quantity, village, day) : NONE;
    }

    public int turned(int village, int day, int other, int sheet, int lane, int i, int n) {
        int refused = refusalOfRow(village, sheet, !isDay(day) || !isDay(other), lane, i, n);
        if (refused < 0) {
            return refused;
        }
        int quantity = meaning(sheet, i, n, village, day);
        return isQuantity(quantity) ? fewestWords(quantity, village, other) : NONE;
    }

    // ---- 3 children, trade, books

    public int child(int village, int day, int w, int sheet, int lane, int i, int n, int what) {
        boolean outside = !isDay(day) || !isWords(w) || what < 0 || what > 1;
        int refused = refusalOfCells(village, sheet, outside, lane, i, n);
        if (refused < 0) {
            return refused;
        }
        if (n > MOST_BARGAINS || !areBargains(sheet, i, n)) {
            return OUTSIDE;
        }
        people.teach(fewest, village, day, NO_ONE);
        int best = NONE;
        int most = -1;
        for (int number = 1; number <= MOST_NUMBER; number++) {
            int said = bargainsSaid(number, w, sheet, i, n);
            if (said > most) {
                most = said;
                best = number;
            }
        }
        return what == 0 ? best : most;
    }

    public int both(int q, int w, int day) {
        if (!isQuantity(q) || !isWords(w) || !isDay(day)) {
            return OUTSIDE;
        }
        people.teach(fewest, 0, day, NO_ONE);
        people.teach(compared, 1, day, NO_ONE);
        for (int quantity = q; quantity < QUANTITIES; quantity++) {
            if (fewest.within(quantity, w) && compared.within(quantity, w)) {
                return quantity;
            }
        }
        return NONE;
    }

    public int written(int village, int sheet, int lane, int i, int n, int what) {
        int refused = refusalOfRow(village, sheet, what < 0 || what > 2, lane, i, n);
        if (refused < 0) {
            return refused;
        }
        int days = 0;
        int first = NONE;
        int last = NONE;
        for (int day = 0; day < DAYS; day++) {
            if (meaning(sheet, i, n, village, day) >= 0) {
                days++;
                first = first == NONE ? day : first;
                last = day;
            }
        }
        if (what == 0) {
            return days;
        }
        return what == 1 ? first : last;
    }

    // ---- 4 the dead

    public int lost(int x, int village, int day, int w) {
        if (people.one(x) == null || !isVillage(village)) {
            return UNKNOWN;
        }
        if (!isDay(day) || !isWords(w)) {
            return OUTSIDE;
        }
        people.teach(fewest, village, day, NO_ONE);
        people.teach(compared, village, day, x);
        int count = 0;
        for (int quantity = 1; quantity <= MOST_NUMBER; quantity++) {
            if (fewest.within(quantity, w) && !compared.within(quantity, w)) {
                count++;
            }
        }
        return count;
    }

    public int back(int quantity, int village, int day, int w, int k) {
        if (!isVillage(village) || k < -1 || k >= MOST_CALLED) {
            return UNKNOWN;
        }
        if (!isQuantity(quantity) || !isDay(day) || !isWords(w)) {
            return OUTSIDE;
        }
        people.teach(fewest, village, day, NO_ONE);
        int size = recall.search(people, fewest, quantity, w);
        if (k == -1 || size == NONE) {
            return size;
        }
        return k < size ? recall.calledAt(k) : NONE;
    }

    public long told(int village, int day, int w, int which) {
        if (!isVillage(village) || !isDay(day) || !isWords(w) || which < 0 || which > 1) {
            return LOST;
        }
        people.teach(fewest, village, day, NO_ONE);
        int count = 0;
        for (int quantity = 1; quantity <= MOST_NUMBER; quantity++) {
            if (fewest.within(quantity, w)) {
                count++;
            }
        }
        return which == 0 ? reduced(count, MOST_NUMBER) : reduced(MOST_NUMBER, count);
    }

    // ---- 5 sheets, parts

    public int sheet(int k, int lane, int n) {
        latestFault = 0;
        if (!isSheet(k)) {
            return UNKNOWN;
        }
        if (!isLane(lane) || n > MOST_CELLS) {
            return OUTSIDE;
        }
        if (n < 0) {
            return faulted(SIZE);
        }
        sheets.renew(k, lane, n);
        return 1;
    }

    public int lose(int k) {
        if (!isSheet(k)) {
            return UNKNOWN;
        }
        if (!sheets.hasRow(k)) {
            return 0;
        }
        sheets.clear(k);
        return 1;
    }

    public int put(int k, int i, int v) {
        latestFault = 0;
        if (!isSheet(k)) {
            return UNKNOWN;
        }
        if (!sheets.hasRow(k)) {
            return faulted(NULL);
        }
        if (!sheets.hasCell(k, i)) {
            return faulted(INDEX);
        }
        sheets.set(k, i, v);
        return 1;
    }

    public long cell(int k, int i, int lane) {
        latestFault = 0;
        if (!isSheet(k) || !isLane(lane)) {
            return LOST;
        }
        int fault = faultAs(k, lane);
        if (fault == 0 && !sheets.hasCell(k, i)) {
            fault = INDEX;
        }
        latestFault = fault;
        return fault == 0 ? sheets.at(k, i) : LOST;
    }

    public int copy(int k, int i, int other, int j, int n) {
        latestFault = 0;
        if (!isSheet(k) || !isSheet(other)) {
            return UNKNOWN;
        }
        if (!sheets.hasRow(k) || !sheets.hasRow(other)) {
            return faulted(NULL);
        }
        if (sheets.laneOf(k) != sheets.laneOf(other)) {
            return faulted(CAST);
        }
        if (!sheets.hasCells(k, i, n) || !sheets.hasCells(other, j, n)) {
            return faulted(INDEX);
        }
        sheets.move(k, i, other, j, n);
        return n;
    }

    public int tell(int x) {
        Named one = people.one(x);
        return one == null ? UNKNOWN : one.telling(traced);
    }

    public int mourn(int x) {
        Named one = people.one(x);
        return one == null ? UNKNOWN : one.mourning(traced, x);
    }

    public int as(int x, int kind) {
        latestFault = 0;
        Named one = people.one(x);
        if (one == null) {
            return UNKNOWN;
        }
        if (kind < 0 || kind >= KINDS) {
            return OUTSIDE;
        }
        // A kind's number is how far it stands below NAMED, so a ONE is one of each kind up to its own.
        return one.kind() < kind ? faulted(CAST) : 1;
    }

    public int trace() {
        return traced.left();
    }

    public int fault() {
        return latestFault;
    }

    public int many() {
        return people.size();
    }

    // ---- what arguments may be

    private static boolean isVillage(int village) {
        return village >= 0 && village < VILLAGES;
    }

    private static boolean isDay(int day) {
        return day >= 0 && day < DAYS;
    }

    private static boolean isQuantity(int quantity) {
        return quantity >= 0 && quantity < QUANTITIES;
    }

    private static boolean isWords(int w) {
        return w >= 1 && w <= MOST_WORDS;
    }

    private static boolean isSheet(int k) {
        return k >= 0 && k < SHEETS;
    }

    private static boolean isLane(int lane) {
        return lane >= 0 && lane < LANES;
    }

    // ---- refusals and faults

    private int faulted(int fault) {
        latestFault = fault;
        return FAULT_BASE - fault;
    }

    /** Nothing is of no lane at all, so it is never a CAST. */
    private int faultAs(int k, int lane) {
        if (!sheets.hasRow(k)) {
            return NULL;
        }
        return sheets.laneOf(k) == lane ? 0 : CAST;
    }

    /** All calls that take cells tell these in one order; they differ in what they find outside ahead of the lane. */
    private int refusalOfCells(int village, int sheet, boolean outside, int lane, int i, int n) {
        latestFault = 0;
        if (!isVillage(village) || !isSheet(sheet)) {
            return UNKNOWN;
        }
        if (outside || !isLane(lane)) {
            return OUTSIDE;
        }
        int fault = faultAs(sheet, lane);
        if (fault != 0) {
            return faulted(fault);
        }
        if (n < 0) {
            return faulted(SIZE);
        }
        return sheets.hasCells(sheet, i, n) ? 0 : faulted(INDEX);
    }

    private int refusalOfRow(int village, int sheet, boolean outside, int lane, int i, int n) {
        int refused = refusalOfCells(village, sheet, outside, lane, i, n);
        if (refused < 0) {
            return refused;
        }
        if (n > MOST_IN_ROW) {
            return OUTSIDE;
        }
        for (int place = 0; place < n; place++) {
            if (people.one(sheets.at(sheet, i + place)) == null) {
                return UNKNOWN;
            }
        }
        return 0;
    }

    private boolean areBargains(int sheet, int i, int n) {
        for (int place = 0; place < n; place++) {
            if (!isQuantity(sheets.at(sheet, i + place))) {
                return false;
            }
        }
        return true;
    }

    // ---- what the calls share

    private int meaning(int sheet, int i, int n, int village, int day) {
        int sum = 0;
        for (int place = 0; place < n; place++) {
            Named one = people.one(sheets.at(sheet, i + place));
            if (one == null || !one.isHeard(village, day)) {
                return PLACE_BASE - place;
            }
            sum += one.number();
        }
        return sum;
    }

    /** Leaves the table for the village and the day in fewest, where numberAt() looks. */
    private int fewestWords(int quantity, int village, int day) {
        people.teach(fewest, village, day, NO_ONE);
        int words = fewest.of(quantity);
        return words < NEVER ? words : NONE;
    }

    private int numberAt(int k, int quantity, int village, int day) {
        int number = NONE;
        int rest = quantity;
        for (int place = 0; place <= k; place++) {
            number = people.greatestStep(fewest, rest, village, day);
            rest -= number;
        }
        return number;
    }

    private int bargainsSaid(int number, int w, int sheet, int i, int n) {
        int said = 0;
        for (int place = 0; place < n; place++) {
            if (fewest.withinByOne(number, sheets.at(sheet, i + place), w)) {
                said++;
            }
        }
        return said;
    }

    /** One number of a share in least terms, by the share's other number. */
    private static int reduced(int number, int other) {
        for (int divisor = MOST_NUMBER; divisor > 1; divisor--) {
            if (number % divisor == 0 && other % divisor == 0) {
                return number / divisor;
            }
        }
        return number;
    }

    /** What the bodies of the telling leave behind. */
    private static final class Trace {
        private int value = 0;

        void leave(int number) {
            value = 31 * value + number;
        }

        int left() {
            return value;
        }
    }

    /** One of the people. */
    private static class Named {
        private final int village;
        private final int number;
        private final int from;
        private final int till;

        Named(int village, int number, int from, int till) {
            this.village = village;
            this.number = number;
            this.from = from;
            this.till = till;
        }

        int kind() {
            return 0;
        }

        final int number() {
            return number;
        }

        final int part(int what) {
            switch (what) {
                case 0:
                    return kind();
                case 1:
                    return village;
                case 2:
                    return number;
                case 3:
                    return from;
                default:
                    return till;
            }
        }

        final boolean isHeard(int inVillage, int day) {
            return isKnown(inVillage) && day >= from && day < till + longer();
        }

        boolean isKnown(int inVillage) {
            return inVillage == village;
        }

        int longer() {
            return 0;
        }

        int telling(Trace trace) {
            return namedTelling(trace);
        }

        /** A body of its own, so that FOREIGN can come to it past LENT's. */
        final int namedTelling(Trace trace) {
            trace.leave(1);
            return number;
        }

        int mourning(Trace trace, int place) {
            trace.leave(4);
            return place;
        }
    }

    /** One whose word a widow lends on. */
    private static class Lent extends Named {
        Lent(int village, int number, int from, int till) {
            super(village, number, from, till);
        }

        int kind() {
            return 1;
        }

        int longer() {
            return 10;
        }

        int telling(Trace trace) {
            trace.leave(2);
            return namedTelling(trace) + 100;
        }
    }

    /** A lent one whose word is known in both villages. */
    private static final class Foreign extends Lent {
        Foreign(int village, int number, int from, int till) {
            super(village, number, from, till);
        }

        int kind() {
            return 2;
        }

        boolean isKnown(int inVillage) {
            return true;
        }

        int telling(Trace trace) {
            trace.leave(3);
            int lent = super.telling(trace);
            return lent + namedTelling(trace);
        }

        int mourning(Trace trace, int place) {
            trace.leave(5);
            return 80;
        }
    }

    /** The people of the latest roll. */
    private static final class People {
        private final Named[] ones = new Named[MOST_PEOPLE];
        private int size = 0;

        int size() {
            return size;
        }

        Named one(int x) {
            return x >= 0 && x < size && x < ones.length ? ones[x] : null;
        }

        void takeFrom(RollText text) {
            size = Math.min(text.people(), ones.length);
            for (int x = 0; x < ones.length; x++) {
                ones[x] = x < size ? text.one(x) : null;
            }
        }

        int bearer(int number, int village, int day) {
            for (int x = 0; x < size; x++) {
                Named one = one(x);
                if (one != null && one.number() == number && one.isHeard(village, day)) {
                    return x;
                }
            }
            return NONE;
        }

        /** Makes a table of all that can be said, as if the word of the one left out did not live. */
        void teach(Fewest table, int village, int day, int leftOut) {
            table.clear();
            for (int x = 0; x < size; x++) {
                Named one = one(x);
                if (one != null && x != leftOut && one.isHeard(village, day)) {
                    table.add(one.number());
                }
            }
        }

        /**
         * Taking the greatest number that some shortest row has gives the row asked for: no shortest row of the
         * rest can have a greater one. 0, where no number leads on.
         */
        int greatestStep(Fewest table, int rest, int village, int day) {
            int greatest = 0;
            for (int x = 0; x < size; x++) {
                Named one = one(x);
                if (one != null && one.number() > greatest && one.isHeard(village, day)
                        && table.of(rest - one.number()) == table.of(rest) - 1) {
                    greatest = one.number();
                }
            }
            return greatest;
        }
    }

    /** By how many words, at the fewest, each quantity can be said. */
    private static final class Fewest {
        private final int[] words = new int[QUANTITIES];

        void clear() {
            for (int quantity = 0; quantity < words.length; quantity++) {
                words[quantity] = quantity == 0 ? 0 : NEVER;
            }
        }

        void add(int number) {
            if (number < 1) {
                return;
            }
            for (int quantity = number; quantity < words.length; quantity++) {
                words[quantity] = Math.min(words[quantity], words[quantity - number] + 1);
            }
        }

        int of(int quantity) {
            return quantity >= 0 && quantity < words.length ? words[quantity] : NEVER;
        }

        boolean within(int quantity, int w) {
            return of(quantity) <= w;
        }

        /** The same, by one more number, too: too many are tried to fill a table for each. */
        boolean withinByOne(int number, int quantity, int w) {
            for (int times = 0; times <= w; times++) {
                if (within(quantity - times * number, w - times)) {
                    return true;
                }
            }
            return false;
        }

        /** The same, by the first n of some more numbers, too. */
        boolean withinBy(int[] more, int n, int quantity, int w) {
            return isReached(this, more, Math.min(n, more.length), quantity, w);
        }

        private static boolean isReached(Fewest table, int[] more, int n, int quantity, int w) {
            if (n <= 0 || n > more.length || quantity < 0) {
                return table.within(quantity, w);
            }
            for (int times = 0; times <= w; times++) {
                if (isReached(table, more, n - 1, quantity - times * more[n - 1], w - times)) {
                    return true;
                }
            }
            return false;
        }
    }

    /** The search for those to call back: rows of people, the shorter first, then in rising order. */
    private static final class Recall {
        /** No more rows of one length can be made of ten people. */
        private static final int MOST_ROWS = 120;

        private final int[] chosen = new int[MOST_CALLED];
        private final int[] numbers = new int[MOST_CALLED];

        /**
         * Leaves the row that was found for calledAt(). Those whose words live are tried, too: no shortest row has one
         * of them, as it would do without.
         */
        int search(People people, Fewest table, int quantity, int w) {
            for (int length = 0; length <= MOST_CALLED && length <= people.size(); length++) {
                chooseFrom(0, 0, length);
                boolean more = true;
                for (int row = 0; row < MOST_ROWS && more; row++) {
                    readNumbers(people, length);
                    if (table.withinBy(numbers, length, quantity, w)) {
                        return length;
                    }
                    more = chooseNext(people.size(), length);
                }
            }
            return NONE;
        }

        int calledAt(int k) {
            return k >= 0 && k < chosen.length ? chosen[k] : NONE;
        }

        /** From a place of the row on, takes people that stand side by side. */
        private void chooseFrom(int place, int first, int length) {
            for (int at = place; at >= 0 && at < length && at < chosen.length; at++) {
                chosen[at] = first + at - place;
            }
        }

        private boolean chooseNext(int size, int length) {
            for (int at = Math.min(length, chosen.length) - 1; at >= 0; at--) {
                if (chosen[at] < size - length + at) {
                    chooseFrom(at, chosen[at] + 1, length);
                    return true;
                }
            }
            return false;
        }

        private void readNumbers(People people, int length) {
            for (int at = 0; at < length && at < chosen.length && at < numbers.length; at++) {
                Named one = people.one(chosen[at]);
                numbers[at] = one == null ? 0 : one.number();
            }
        }
    }

    /** All sheets side by side in one row of cells, so that none is ever made anew. */
    private static final class Sheets {
        private static final int NOTHING = -1;

        private final int[] cells = new int[SHEETS * MOST_CELLS];
        private final int[] lanes = new int[SHEETS];
        /** Nothing has no cells, so what has a cell has a row. */
        private final int[] sizes = new int[SHEETS];

        Sheets() {
            for (int k = 0; k < lanes.length; k++) {
                lanes[k] = NOTHING;
            }
        }

        int laneOf(int k) {
            return k >= 0 && k < lanes.length ? lanes[k] : NOTHING;
        }

        boolean hasRow(int k) {
            return laneOf(k) != NOTHING;
        }

        private int sizeOf(int k) {
            return k >= 0 && k < sizes.length ? sizes[k] : 0;
        }

        boolean hasCells(int k, int i, int n) {
            int size = sizeOf(k);
            return n >= 0 && i >= 0 && i <= size && n <= size - i;
        }

        /** Where a cell stands among all; -1, where there is none. */
        private int standOf(int k, int i) {
            int stand = k * MOST_CELLS + i;
            return i >= 0 && i < sizeOf(k) && stand >= 0 && stand < cells.length ? stand : -1;
        }

        boolean hasCell(int k, int i) {
            return standOf(k, i) >= 0;
        }

        int at(int k, int i) {
            int stand = standOf(k, i);
            return stand < 0 ? 0 : cells[stand];
        }

        void set(int k, int i, int v) {
            int stand = standOf(k, i);
            if (stand >= 0) {
                cells[stand] = cut(v, laneOf(k));
            }
        }

        private static int cut(int v, int lane) {
            if (lane == 0) {
                return (byte) v;
            }
            return lane == 1 ? (short) v : v;
        }

        void clear(int k) {
            renew(k, NOTHING, 0);
        }

        void renew(int k, int lane, int n) {
            if (k < 0 || k >= lanes.length || k >= sizes.length) {
                return;
            }
            lanes[k] = lane;
            sizes[k] = n;
            for (int i = 0; i < n; i++) {
                set(k, i, 0);
            }
        }

        void move(int k, int i, int other, int j, int n) {
            if (n > 0 && hasCells(k, i, n) && hasCells(other, j, n)) {
                System.arraycopy(cells, k * MOST_CELLS + i, cells, other * MOST_CELLS + j, n);
            }
        }
    }

    /** Cells read as the text of a roll: eight codes a ONE, and one that parts it from the next. */
    private static final class RollText {
        private static final int STEP = 9, NUMBER_AT = 2, FROM_AT = 4, TILL_AT = 6, MARK_AT = 8;

        private final int[] codes = new int[MOST_CELLS];
        private int length = 0;

        void read(Sheets sheets, int sheet, int start, int n) {
            length = Math.min(n, codes.length);
            for (int place = 0; place < length && place < codes.length; place++) {
                codes[place] = sheets.at(sheet, start + place);
            }
        }

        /** -1, where there is none. */
        int firstFault() {
            for (int place = 0; place < length; place++) {
                if (!goesOn(place)) {
                    return isSecondDigit(place) ? place - 1 : place;
                }
            }
            return length % STEP == MARK_AT ? -1 : length;
        }

        int people() {
            return (length + 1) / STEP;
        }

        Named one(int x) {
            int place = x * STEP;
            int village = digit(place + 1);
            int number = pair(place + NUMBER_AT);
            int from = pair(place + FROM_AT);
            int till = pair(place + TILL_AT);
            if (code(place) == 'f') {
                return new Foreign(village, number, from, till);
            }
            if (code(place) == 'l') {
                return new Lent(village, number, from, till);
            }
            return new Named(village, number, from, till);
        }

        private int code(int place) {
            return place >= 0 && place < length && place < codes.length ? codes[place] : -1;
        }

        private int digit(int place) {
            int code = code(place);
            return code >= '0' && code <= '9' ? code - '0' : -1;
        }

        private int pair(int place) {
            return 10 * digit(place) + digit(place + 1);
        }

        private boolean goesOn(int place) {
            int code = code(place);
            int at = place % STEP;
            if (at == 0) {
                return code == 'n' || code == 'l' || code == 'f';
            }
            if (at == 1) {
                return code == '0' || code == '1';
            }
            if (at == MARK_AT) {
                return code == ';' && place < MOST_PEOPLE * STEP - 1;
            }
            return digit(place) >= 0 && isPairGoingOn(place - at, at);
        }

        /** Of a first digit: whether some second one makes a number that is as told. */
        private boolean isPairGoingOn(int one, int at) {
            boolean isFirst = at % 2 == 0;
            int low = isFirst ? 10 * digit(one + at) : pair(one + at - 1);
            int high = isFirst ? low + 9 : low;
            int first = isFirst ? at : at - 1;
            if (first == NUMBER_AT) {
                return high >= 1;
            }
            if (first == FROM_AT) {
                return low <= 98;
            }
            return high > pair(one + FROM_AT);
        }

        private boolean isSecondDigit(int place) {
            int at = place % STEP;
            return at > NUMBER_AT && at < MARK_AT && at % 2 == 1 && digit(place) >= 0;
        }
    }
}
