import java.util.Arrays;

/**
 * Lists that are worked only as far as someone asks: cells are reached and items worked when they
 * are needed, once, and stay so.
 *
 * <p>A list is made of lists made before it alone, so no chain of lists is longer than LISTS: that
 * keeps every recursion below low.
 */
public final class NeededLists {
    private static final int LISTS = 24;
    private static final int CELLS = 400;
    private static final int ROW_ROOM = 100;
    private static final int STEPS_AT_FIRST = 1000;
    private static final int MOST_STEPS = 5000;

    // What a cell or an item is. One scale for both, so that what FAILS is handed on as it is.
    private static final int NOT_YET = 0;
    private static final int FINE = 1;
    private static final int END = 2;
    private static final int OUT = 3;
    private static final int UNDEFINED = 4;
    // An ERROR is UNDEFINED and its number: finish() counts on it.
    private static final int DIVISION = UNDEFINED + 1;
    private static final int EMPTY = UNDEFINED + 2;
    private static final int PLACE = UNDEFINED + 3;
    private static final int OWN = UNDEFINED + 4;

    private static final int PLUS = 0;
    private static final int MINUS = 1;
    private static final int TIMES = 2;
    private static final int OVER = 3;
    private static final int REST = 4;
    private static final int LESSER = 5;
    private static final int GREATER = 6;
    private static final int FIRST = 7;
    private static final int SECOND = 8;

    private static final int BELOW = 0;
    private static final int SAME = 1;
    private static final int ABOVE = 2;
    private static final int MULTIPLE = 3;
    private static final int NO_COND = -1;

    private static final int ROUND = 0;
    private static final int BACK = 1;
    private static final int SORT = 2;
    private static final int ONCE = 3;
    private static final int RUNS = 4;

    private final Meter meter;
    private final LazyList[] made;
    private final long[] rowNumbers;
    private final byte[] rowFates;
    private int madeCount;
    private int rowLength;
    private int stepsOfAsk;
    private int latestOutcome;
    private int latestError;

    public NeededLists() {
        meter = new Meter();
        made = new LazyList[LISTS];
        rowNumbers = new long[ROW_ROOM];
        rowFates = new byte[ROW_ROOM];
        stepsOfAsk = STEPS_AT_FIRST;
    }

    // ---- THE ROW

    public int put(long v) throws UnsupportedOperationException {
        return addToRow(v, FINE);
    }

    public int hole(int kind) throws IllegalArgumentException, UnsupportedOperationException {
        if (kind != 0 && kind != 1) {
            throw new IllegalArgumentException("kind is not 0 or 1");
        }
        return addToRow(0, kind == 0 ? UNDEFINED : OWN);
    }

    private int addToRow(long number, int fate) {
        if (rowLength >= ROW_ROOM) {
            throw new UnsupportedOperationException("THE ROW is full");
        }
        rowNumbers[rowLength] = number;
        rowFates[rowLength] = (byte) fate;
        rowLength++;
        return rowLength;
    }

    // ---- lists

    public int given(boolean cut) throws UnsupportedOperationException {
        checkRoom();
        long[] numbers = Arrays.copyOf(rowNumbers, rowLength);
        byte[] fates = Arrays.copyOf(rowFates, rowLength);
        rowLength = 0;
        return addList(new Given(meter, numbers, fates, cut ? UNDEFINED : END));
    }

    public int count(long b, long s) throws UnsupportedOperationException {
        checkRoom();
        long[] numbers = new long[CELLS];
        for (int k = 0; k < CELLS; k++) {
            numbers[k] = b + k * s;
        }
        byte[] fates = new byte[CELLS];
        Arrays.fill(fates, (byte) FINE);
        // No one gets behind cell 399, so what is told here as behind it is never seen.
        return addList(new Given(meter, numbers, fates, OUT));
    }

    public int iterate(int op, long c, long x) throws IllegalArgumentException, UnsupportedOperationException {
        checkOp(op);
        checkRoom();
        return addList(new Chained(meter, null, op, c, x));
    }

    public int map(int a, int op, long c)
            throws IndexOutOfBoundsException, IllegalArgumentException, UnsupportedOperationException {
        LazyList of = listOf(a);
        checkOp(op);
        checkRoom();
        return addList(new Combined(meter, of, null, op, c));
    }

    public int both(int a, int b, int op)
            throws IndexOutOfBoundsException, IllegalArgumentException, UnsupportedOperationException {
        LazyList left = listOf(a);
        LazyList right = listOf(b);
        checkOp(op);
        checkRoom();
        return addList(new Combined(meter, left, right, op, 0));
    }

    public int scan(int a, int op, long b)
            throws IndexOutOfBoundsException, IllegalArgumentException, UnsupportedOperationException {
        LazyList of = listOf(a);
        checkOp(op);
        checkRoom();
        return addList(new Chained(meter, of, op, 0, b));
    }

    public int take(int a, int n)
            throws IndexOutOfBoundsException, IllegalArgumentException, UnsupportedOperationException {
        LazyList of = listOf(a);
        checkLength(n);
        checkRoom();
        return addList(new Front(meter, of, n, NO_COND, 0));
    }

    public int drop(int a, int n)
            throws IndexOutOfBoundsException, IllegalArgumentException, UnsupportedOperationException {
        LazyList of = listOf(a);
        checkLength(n);
        checkRoom();
        return addList(new Rest(meter, of, n, NO_COND, 0));
    }

    public int keep(int a, int cond, long c)
            throws IndexOutOfBoundsException, IllegalArgumentException, UnsupportedOperationException {
        LazyList of = listOf(a);
        checkCond(cond);
        checkRoom();
        return addList(new Sieve(meter, of, cond, c));
    }

    public int during(int a, int cond, long c)
            throws IndexOutOfBoundsException, IllegalArgumentException, UnsupportedOperationException {
        LazyList of = listOf(a);
        checkCond(cond);
        checkRoom();
        return addList(new Front(meter, of, CELLS, cond, c));
    }

    public int after(int a, int cond, long c)
            throws IndexOutOfBoundsException, IllegalArgumentException, UnsupportedOperationException {
        LazyList of = listOf(a);
        checkCond(cond);
        checkRoom();
        return addList(new Rest(meter, of, 0, cond, c));
    }

    public int join(int a, int b) throws IndexOutOfBoundsException, UnsupportedOperationException {
        LazyList left = listOf(a);
        LazyList right = listOf(b);
        checkRoom();
        return addList(new Joined(meter, left, right));
    }

    public int other(int a, int sort)
            throws IndexOutOfBoundsException, IllegalArgumentException, UnsupportedOperationException {
        LazyList of = listOf(a);
        if (sort < ROUND || sort > RUNS) {
            throw new IllegalArgumentException("sort is not 0 .. 4");
        }
        checkRoom();
        return addList(otherList(of, sort));
    }

    private LazyList otherList(LazyList of, int sort) {
        switch (sort) {
            case ROUND:
                return new Joined(meter, of, null);
            case BACK:
                return new Ordered(meter, of, false);
            case SORT:
                return new Ordered(meter, of, true);
            case ONCE:
                return new Sieve(meter, of, NO_COND, 0);
            default:
                return new Runs(meter, of);
        }
    }

    private int addList(LazyList list) {
        int number = madeCount;
        if (number < made.length) {
            made[number] = list;
            madeCount = number + 1;
        }
        return number;
    }

    // ---- asks

    public int steps(int n) throws IllegalArgumentException {
        if (n < 1 || n > MOST_STEPS) {
            throw new IllegalArgumentException("n is not 1 .. 5000");
        }
        int before = stepsOfAsk;
        stepsOfAsk = n;
        return before;
    }

    public long at(int a, int k) throws IndexOutOfBoundsException, IllegalArgumentException {
        LazyList list = listOf(a);
        if (k < 0) {
            throw new IllegalArgumentException("k is below 0");
        }
        meter.begin(stepsOfAsk);
        int cell = list.reach(k);
        if (cell != FINE) {
            return finish(cell == END ? PLACE : cell, 0);
        }
        int item = list.work(k);
        return finish(item, list.number(k));
    }

    public long size(int a) throws IndexOutOfBoundsException {
        LazyList list = listOf(a);
        meter.begin(stepsOfAsk);
        int cell = list.reachAll();
        return finish(cell == END ? FINE : cell, list.there());
    }

    public long fold(int a, int op, long b) throws IndexOutOfBoundsException, IllegalArgumentException {
        LazyList list = listOf(a);
        checkOp(op);
        meter.begin(stepsOfAsk);
        long soFar = b;
        int state = FINE;
        for (int k = 0; k <= CELLS; k++) {
            int cell = list.reach(k);
            if (cell != FINE) {
                return finish(cell == END ? state : cell, soFar);
            }
            if (op == FIRST) {
                continue;
            }
            state = list.work(k);
            long item = list.number(k);
            if (state == FINE && dividesByNone(op, item)) {
                state = DIVISION;
            }
            // With op 8 what there is so far is not needed, so what FAILS is past with the next item.
            if (state == OUT || state != FINE && op != SECOND) {
                return finish(state, 0);
            }
            soFar = reckon(op, soFar, item);
        }
        return finish(OUT, 0);
    }

    public long find(int a, int cond, long c) throws IndexOutOfBoundsException, IllegalArgumentException {
        LazyList list = listOf(a);
        checkCond(cond);
        meter.begin(stepsOfAsk);
        for (int k = 0; k <= CELLS; k++) {
            int cell = list.reach(k);
            if (cell != FINE) {
                return finish(cell == END ? FINE : cell, -1);
            }
            int item = list.work(k);
            if (item != FINE || meets(cond, list.number(k), c)) {
                return finish(item, k);
            }
        }
        return finish(OUT, 0);
    }

    public long last(int a) throws IndexOutOfBoundsException {
        LazyList list = listOf(a);
        meter.begin(stepsOfAsk);
        int cell = list.reachAll();
        if (cell != END) {
            return finish(cell, 0);
        }
        int length = list.there();
        if (length == 0) {
            return finish(EMPTY, 0);
        }
        int item = list.work(length - 1);
        return finish(item, list.number(length - 1));
    }

    public int outcome() {
        return latestOutcome;
    }

    public int error() {
        return latestError;
    }

    public int spent() {
        return meter.used;
    }

    /** Notes how the ask came out: the number if the state is FINE, else 0. */
    private long finish(int state, long number) {
        latestError = state > UNDEFINED ? state - UNDEFINED : 0;
        switch (state) {
            case FINE:
                latestOutcome = 0;
                return number;
            case UNDEFINED:
                latestOutcome = 1;
                return 0;
            case OUT:
                latestOutcome = 3;
                return 0;
            default:
                latestOutcome = 2;
                return 0;
        }
    }

    // ---- what is seen, without any ask

    public int reached(int a) throws IndexOutOfBoundsException {
        return listOf(a).met;
    }

    public boolean worked(int a, int k) throws IndexOutOfBoundsException {
        LazyList list = listOf(a);
        return k >= 0 && k < list.there() && list.isWorked(k);
    }

    public int lists() {
        return madeCount;
    }

    // ---- what the calls must be given

    private LazyList listOf(int a) {
        LazyList list = a >= 0 && a < madeCount && a < made.length ? made[a] : null;
        if (list == null) {
            throw new IndexOutOfBoundsException("there is no such list");
        }
        return list;
    }

    private void checkRoom() {
        if (madeCount >= LISTS) {
            throw new UnsupportedOperationException("there are 24 lists");
        }
    }

    private static void checkOp(int op) {
        if (op < PLUS || op > SECOND) {
            throw new IllegalArgumentException("op is not 0 .. 8");
        }
    }

    private static void checkCond(int cond) {
        if (cond < BELOW || cond > MULTIPLE) {
            throw new IllegalArgumentException("cond is not 0 .. 3");
        }
    }

    private static void checkLength(int n) {
        if (n < 0 || n > CELLS) {
            throw new IllegalArgumentException("n is not 0 .. 400");
        }
    }

    // ---- OPS and CONDS

    private static boolean dividesByNone(int op, long y) {
        return y == 0 && (op == OVER || op == REST);
    }

    private static long reckon(int op, long x, long y) {
        switch (op) {
            case PLUS:
                return x + y;
            case MINUS:
                return x - y;
            case TIMES:
                return x * y;
            case OVER:
                return y == 0 ? 0 : Math.floorDiv(x, y);
            case REST:
                return y == 0 ? 0 : Math.floorMod(x, y);
            case LESSER:
                return Math.min(x, y);
            case GREATER:
                return Math.max(x, y);
            case FIRST:
                return x;
            default:
                return y;
        }
    }

    private static boolean meets(int cond, long x, long c) {
        switch (cond) {
            case BELOW:
                return x < c;
            case SAME:
                return x == c;
            case ABOVE:
                return x > c;
            default:
                return c == 0 ? x == 0 : x % c == 0;
        }
    }

    /** The STEPS of the ask that is under way; every list of one object spends from the same ones. */
    private static final class Meter {
        private int left;
        private int used;

        void begin(int most) {
            left = most;
            used = 0;
        }

        boolean spend() {
            if (left <= 0) {
                return false;
            }
            left--;
            used++;
            return true;
        }
    }

    /**
     * A list. Its cells are reached in order, so a count and what the last one is tell them all.
     * It has items of its own, or SHARES those of the lists that source() tells.
     */
    private abstract static class LazyList {
        private final Meter meter;
        private final long[] numbers;
        private final byte[] marks;
        private int met;
        private int close;

        /** The row of numbers has room for the own items: none where all are shared. */
        LazyList(Meter meter, long[] numbers) {
            this.meter = meter;
            this.numbers = numbers;
            this.marks = new byte[numbers.length];
        }

        /** Does all that cell k needs, when those ahead of it are THERE: FINE, END, what FAILS, or OUT. */
        abstract int seek(int k);

        /** Does all that the own item k needs, and tells its number: FINE, what FAILS, or OUT. */
        int form(int k) {
            return OUT;
        }

        /** The list whose item the item of cell k is: this one if it is its own. */
        LazyList source(int k) {
            return this;
        }

        /** Which item of source(k) it is. */
        int place(int k) {
            return k;
        }

        /** How many cells were reached that are THERE. */
        final int there() {
            return close == NOT_YET ? met : met - 1;
        }

        /** Reaches cells 0 to k: FINE, or the END or what FAILS at k or ahead of it, or OUT. */
        final int reach(int k) {
            int until = Math.min(k, CELLS);
            for (int next = met; next <= until && close == NOT_YET; next++) {
                if (next == CELLS) {
                    return OUT;
                }
                int found = seek(next);
                if (found == OUT || !meter.spend()) {
                    return OUT;
                }
                met = next + 1;
                if (found != FINE) {
                    close = found;
                }
            }
            return k < there() ? FINE : close;
        }

        /** Reaches all cells: END, what FAILS, or OUT. */
        final int reachAll() {
            return reach(CELLS);
        }

        /** Works the item of cell k, which is THERE: FINE, what FAILS, or OUT. */
        final int work(int k) {
            LazyList from = source(k);
            if (from != this) {
                return from.work(place(k));
            }
            if (k < 0 || k >= marks.length) {
                return OUT;
            }
            if (marks[k] == NOT_YET) {
                int found = form(k);
                if (found == OUT || !meter.spend()) {
                    return OUT;
                }
                marks[k] = (byte) found;
            }
            return marks[k];
        }

        /** Whether the item of cell k, which is THERE, was worked. */
        final boolean isWorked(int k) {
            LazyList from = source(k);
            if (from != this) {
                return from.isWorked(place(k));
            }
            return k >= 0 && k < marks.length && marks[k] != NOT_YET;
        }

        /** The number of the item of cell k, if work(k) told that it is FINE. */
        final long number(int k) {
            LazyList from = source(k);
            if (from != this) {
                return from.number(place(k));
            }
            return k >= 0 && k < numbers.length ? numbers[k] : 0;
        }

        final int tell(int k, long number) {
            if (k < 0 || k >= numbers.length) {
                return OUT;
            }
            numbers[k] = number;
            return FINE;
        }

        final int tellOp(int k, int op, long x, long y) {
            return dividesByNone(op, y) ? DIVISION : tell(k, reckon(op, x, y));
        }
    }

    /** GIVEN; COUNT too, as its items can be told from the start. */
    private static final class Given extends LazyList {
        private final byte[] fates;
        private final int behind;

        Given(Meter meter, long[] numbers, byte[] fates, int behind) {
            super(meter, numbers);
            this.fates = fates;
            this.behind = behind;
        }

        @Override
        int seek(int k) {
            return k < fates.length ? FINE : behind;
        }

        @Override
        int form(int k) {
            return k >= 0 && k < fates.length ? fates[k] : OUT;
        }
    }

    /** MAP, which has no second list, and BOTH. */
    private static final class Combined extends LazyList {
        private final LazyList left;
        private final LazyList right;
        private final int op;
        private final long c;

        Combined(Meter meter, LazyList left, LazyList right, int op, long c) {
            super(meter, new long[CELLS]);
            this.left = left;
            this.right = right;
            this.op = op;
            this.c = c;
        }

        @Override
        int seek(int k) {
            int cell = left.reach(k);
            return cell != FINE || right == null ? cell : right.reach(k);
        }

        @Override
        int form(int k) {
            long x = 0;
            if (op != SECOND) {
                int item = left.work(k);
                if (item != FINE) {
                    return item;
                }
                x = left.number(k);
            }
            long y = c;
            if (op != FIRST && right != null) {
                int item = right.work(k);
                if (item != FINE) {
                    return item;
                }
                y = right.number(k);
            }
            return tellOp(k, op, x, y);
        }
    }

    /** ITERATE, which has no list, and SCAN: an item comes from the one ahead of it. */
    private static final class Chained extends LazyList {
        private final LazyList of;
        private final int op;
        private final long c;
        private final long start;

        Chained(Meter meter, LazyList of, int op, long c, long start) {
            super(meter, new long[CELLS]);
            this.of = of;
            this.op = op;
            this.c = c;
            this.start = start;
        }

        @Override
        int seek(int k) {
            return of == null || k == 0 ? FINE : of.reach(k - 1);
        }

        @Override
        int form(int k) {
            if (k == 0) {
                return tell(k, start);
            }
            long x = 0;
            if (op != SECOND) {
                int item = workAhead(k);
                if (item != FINE) {
                    return item;
                }
                x = number(k - 1);
            }
            long y = c;
            if (op != FIRST && of != null) {
                int item = of.work(k - 1);
                if (item != FINE) {
                    return item;
                }
                y = of.number(k - 1);
            }
            return tellOp(k, op, x, y);
        }

        /**
         * Works item k - 1. The items ahead are worked from the lowest on, in a loop: each then finds
         * the one ahead of it worked, and 400 items do not become 400 levels.
         */
        private int workAhead(int k) {
            int from = k - 1;
            while (from > 0 && !isWorked(from)) {
                from--;
            }
            int item = FINE;
            for (int j = from; j < k && item != OUT; j++) {
                item = work(j);
            }
            return item;
        }
    }

    /** RUNS. */
    private static final class Runs extends LazyList {
        private final LazyList of;
        private final int[] starts;
        private int runEnd;

        Runs(Meter meter, LazyList of) {
            super(meter, new long[CELLS]);
            this.of = of;
            this.starts = new int[CELLS];
        }

        @Override
        int seek(int k) {
            if (k == 0) {
                return of.reach(0);
            }
            if (k < 0 || k >= starts.length) {
                return OUT;
            }
            int found = lookThrough(starts[k - 1]);
            starts[k] = runEnd;
            return found;
        }

        @Override
        int form(int k) {
            if (k < 0 || k >= starts.length) {
                return OUT;
            }
            int found = lookThrough(starts[k]);
            return found == FINE || found == END ? tell(k, runEnd - starts[k]) : found;
        }

        /** FINE if another number is behind the run, END if the END is (runEnd says where), else why not. */
        private int lookThrough(int start) {
            int item = of.work(start);
            if (item != FINE) {
                return item;
            }
            long number = of.number(start);
            for (int p = start + 1; p <= CELLS; p++) {
                runEnd = p;
                int cell = of.reach(p);
                if (cell != FINE) {
                    return cell;
                }
                item = of.work(p);
                if (item != FINE || of.number(p) != number) {
                    return item;
                }
            }
            return OUT;
        }
    }

    /** TAKE, which has no cond, and DURING, whose limit no one gets to. */
    private static final class Front extends LazyList {
        private final LazyList of;
        private final int limit;
        private final int cond;
        private final long c;

        Front(Meter meter, LazyList of, int limit, int cond, long c) {
            super(meter, new long[0]);
            this.of = of;
            this.limit = limit;
            this.cond = cond;
            this.c = c;
        }

        @Override
        int seek(int k) {
            if (k >= limit) {
                return END;
            }
            int cell = of.reach(k);
            if (cell != FINE || cond == NO_COND) {
                return cell;
            }
            int item = of.work(k);
            if (item != FINE) {
                return item;
            }
            return meets(cond, of.number(k), c) ? FINE : END;
        }

        @Override
        LazyList source(int k) {
            return of;
        }
    }

    /** DROP, which has no cond and knows its start, and AFTER, which finds it for cell 0. */
    private static final class Rest extends LazyList {
        private final LazyList of;
        private final int cond;
        private final long c;
        private int start;

        Rest(Meter meter, LazyList of, int start, int cond, long c) {
            super(meter, new long[0]);
            this.of = of;
            this.start = start;
            this.cond = cond;
            this.c = c;
        }

        @Override
        int seek(int k) {
            return k == 0 && cond != NO_COND ? findStart() : of.reach(start + k);
        }

        private int findStart() {
            for (int p = 0; p <= CELLS; p++) {
                int cell = of.reach(p);
                if (cell != FINE) {
                    return cell;
                }
                int item = of.work(p);
                if (item != FINE || !meets(cond, of.number(p), c)) {
                    start = p;
                    return item;
                }
            }
            return OUT;
        }

        @Override
        LazyList source(int k) {
            return of;
        }

        @Override
        int place(int k) {
            return start + k;
        }
    }

    /** KEEP, and ONCE, which has no cond. */
    private static final class Sieve extends LazyList {
        private final LazyList of;
        private final int cond;
        private final long c;
        private final int[] places;

        Sieve(Meter meter, LazyList of, int cond, long c) {
            super(meter, new long[0]);
            this.of = of;
            this.cond = cond;
            this.c = c;
            this.places = new int[CELLS];
        }

        @Override
        int seek(int k) {
            if (k < 0 || k >= places.length) {
                return OUT;
            }
            for (int p = k == 0 ? 0 : places[k - 1] + 1; p <= CELLS; p++) {
                int cell = of.reach(p);
                if (cell != FINE) {
                    return cell;
                }
                int item = of.work(p);
                if (item != FINE || lets(of.number(p), k)) {
                    places[k] = p;
                    return item;
                }
            }
            return OUT;
        }

        private boolean lets(long number, int k) {
            if (cond != NO_COND) {
                return meets(cond, number, c);
            }
            for (int j = 0; j < k; j++) {
                if (number(j) == number) {
                    return false;
                }
            }
            return true;
        }

        @Override
        LazyList source(int k) {
            return of;
        }

        @Override
        int place(int k) {
            return k >= 0 && k < places.length ? places[k] : 0;
        }
    }

    /** JOIN, and ROUND, which has no second list. */
    private static final class Joined extends LazyList {
        private final LazyList left;
        private final LazyList right;

        Joined(Meter meter, LazyList left, LazyList right) {
            super(meter, new long[0]);
            this.left = left;
            this.right = right;
        }

        @Override
        int seek(int k) {
            int cell = left.reach(k);
            if (cell != END) {
                return cell;
            }
            if (right != null) {
                return right.reach(k - left.there());
            }
            return left.there() == 0 ? EMPTY : FINE;
        }

        // Where a cell behind those of the first list is THERE, the first list's END was reached.
        @Override
        LazyList source(int k) {
            return k < left.there() || right == null ? left : right;
        }

        @Override
        int place(int k) {
            int length = left.there();
            if (k < length) {
                return k;
            }
            if (right != null) {
                return k - length;
            }
            return length == 0 ? 0 : k % length;
        }
    }

    /** BACK, and SORT, which alone has a row of places. */
    private static final class Ordered extends LazyList {
        private final LazyList of;
        private final int[] places;

        Ordered(Meter meter, LazyList of, boolean sorted) {
            super(meter, new long[0]);
            this.of = of;
            this.places = sorted ? new int[CELLS] : null;
        }

        @Override
        int seek(int k) {
            if (k == 0) {
                int cell = of.reachAll();
                if (cell != END) {
                    return cell;
                }
                int items = places == null ? FINE : sortPlaces();
                if (items != FINE) {
                    return items;
                }
            }
            return k < of.there() ? FINE : END;
        }

        /** Works the items one by one, and only when all are numbers puts them in order. */
        private int sortPlaces() {
            int length = of.there();
            for (int p = 0; p < length; p++) {
                int item = of.work(p);
                if (item != FINE) {
                    return item;
                }
            }
            for (int p = 0; p < length && p < places.length; p++) {
                insertPlace(p);
            }
            return FINE;
        }

        /** Behind all that are not greater: so of the same items the lesser cell stays ahead. */
        private void insertPlace(int p) {
            long number = of.number(p);
            int free = p;
            while (free > 0 && of.number(places[free - 1]) > number) {
                places[free] = places[free - 1];
                free--;
            }
            places[free] = p;
        }

        @Override
        LazyList source(int k) {
            return of;
        }

        @Override
        int place(int k) {
            if (places == null) {
                return of.there() - 1 - k;
            }
            return k >= 0 && k < places.length ? places[k] : 0;
        }
    }
}
