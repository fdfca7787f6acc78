/** What each promise of the document says, with answers reckoned by hand from its words. */
public final class PromiseTest {
    private static final Class<? extends RuntimeException> NO_LIST = IndexOutOfBoundsException.class;
    private static final Class<? extends RuntimeException> BAD = IllegalArgumentException.class;
    private static final Class<? extends RuntimeException> FULL = UnsupportedOperationException.class;
    private static final int[] WRONG_LISTS = {-1, 24, 23, Integer.MAX_VALUE, Integer.MIN_VALUE};
    private static int wrong = 0;

    interface Maker {
        int make(NeededLists x);
    }

    private static void due(String what, long got, long want) {
        if (got != want) {
            wrong++;
            System.out.println(what + " answered " + got + ", due is " + want);
        }
    }

    private static void due(String what, boolean got, boolean want) {
        due(what, got ? 1 : 0, want ? 1 : 0);
    }

    /** Exactly this class: what the machine throws is often below it. */
    private static void thrown(String what, Class<? extends RuntimeException> want, Runnable call) {
        Class<?> got = null;
        try {
            call.run();
        } catch (RuntimeException e) {
            got = e.getClass();
        }
        if (got != want) {
            wrong++;
            System.out.println(what + " threw " + got + ", due is " + want);
        }
    }

    /** The ask's answer, what became of it, and its steps. */
    private static void ask(String what, NeededLists x, long got, long want, int outcome, int error, int spent) {
        due(what, got, want);
        due(what + ": outcome", x.outcome(), outcome);
        due(what + ": error", x.error(), error);
        due(what + ": spent", x.spent(), spent);
    }

    private static int row(NeededLists x, long... numbers) {
        for (long n : numbers) {
            x.put(n);
        }
        return x.given(false);
    }

    private static NeededLists filled() {
        NeededLists x = new NeededLists();
        for (int i = 0; i < 24; i++) {
            x.count(i, 1);
        }
        return x;
    }

    /** The list holds these and the END, in a new object; what a list is made of is made by the maker. */
    private static void items(String what, Maker maker, long... want) {
        NeededLists x = new NeededLists();
        int a = maker.make(x);
        due(what + ": size", x.size(a), want.length);
        due(what + ": outcome", x.outcome(), 0);
        for (int k = 0; k < want.length; k++) {
            due(what + ": item " + k, x.at(a, k), want[k]);
            due(what + ": outcome " + k, x.outcome(), 0);
        }
        x.at(a, want.length);
        due(what + ": error at the END", x.error(), 3);
    }

    /** What becomes of item k alone, in a new object, and what it takes. */
    private static void item(String what, Maker maker, int k, long want, int outcome, int error, int spent) {
        NeededLists x = new NeededLists();
        int a = maker.make(x);
        ask(what, x, x.at(a, k), want, outcome, error, spent);
    }

    interface ListCall {
        void on(NeededLists x, int a);
    }

    private static void needsList(String what, ListCall call) {
        for (int a : WRONG_LISTS) {
            NeededLists x = new NeededLists();
            x.count(1, 1);
            thrown(what + " of list " + a, NO_LIST, () -> call.on(x, a));
            due(what + ": lists", x.lists(), 1);
        }
        NeededLists none = new NeededLists();
        thrown(what + " of list 0 of none", NO_LIST, () -> call.on(none, 0));
    }

    private static void needsRoom(String what, ListCall call) {
        NeededLists x = filled();
        thrown(what + " as a 25th list", FULL, () -> call.on(x, 0));
        due(what + ": lists", x.lists(), 24);
        NeededLists y = new NeededLists();
        for (int i = 0; i < 23; i++) {
            y.count(i, 1);
        }
        call.on(y, 0);
        due(what + ": lists", y.lists(), 24);
    }

    private static void promise1() {
        NeededLists x = new NeededLists();
        due("lists", x.lists(), 0);
        due("outcome", x.outcome(), 0);
        due("error", x.error(), 0);
        due("spent", x.spent(), 0);
        due("given", x.given(false), 0);
        ask("size of an empty ROW's list", x, x.size(0), 0, 0, 0, 1);
        due("steps at first", x.steps(1), 1000);
    }

    private static void promise2() {
        NeededLists x = new NeededLists();
        for (int i = 1; i <= 100; i++) {
            due("put", x.put(i == 1 ? Long.MIN_VALUE : i), i);
        }
        thrown("put of a 101st", FULL, () -> x.put(5));
        due("given", x.given(false), 0);
        due("size", x.size(0), 100);
        due("first", x.at(0, 0), Long.MIN_VALUE);
        due("last", x.last(0), 100);
        due("put on a new ROW", x.put(9), 1);
    }

    private static void promise3() {
        NeededLists x = new NeededLists();
        due("hole", x.hole(0), 1);
        due("hole", x.hole(1), 2);
        for (int kind : new int[] {-1, 2, Integer.MAX_VALUE, Integer.MIN_VALUE}) {
            thrown("hole " + kind, BAD, () -> x.hole(kind));
        }
        due("put", x.put(1), 3);
        x.given(false);
        ask("UNDEFINED", x, x.at(0, 0), 0, 1, 0, 2);
        ask("OWN", x, x.at(0, 1), 0, 2, 4, 2);
        due("a FAILED item is worked", x.worked(0, 1), true);
        ask("again", x, x.at(0, 1), 0, 2, 4, 0);
        for (int i = 0; i < 100; i++) {
            x.put(i);
        }
        thrown("hole in a full ROW", FULL, () -> x.hole(0));
        thrown("wrong hole in a full ROW", BAD, () -> x.hole(2));
        NeededLists y = new NeededLists();
        thrown("a wrong hole", BAD, () -> y.hole(7));
        due("changes nothing", y.put(1), 1);
    }

    private static void promise4() {
        items("given", x -> row(x, 4, 5), 4, 5);
        NeededLists x = new NeededLists();
        x.put(7);
        due("given", x.given(true), 0);
        ask("size of a cut list", x, x.size(0), 0, 1, 0, 2);
        ask("at in it", x, x.at(0, 0), 7, 0, 0, 1);
        ask("at behind it", x, x.at(0, 5), 0, 1, 0, 0);
        due("reached", x.reached(0), 2);
        due("the ROW is empty then", x.given(false), 1);
        due("size", x.size(1), 0);
        NeededLists y = filled();
        y.put(1);
        thrown("given as a 25th list", FULL, () -> y.given(false));
        due("the ROW stays", y.put(2), 2);
        due("lists", y.lists(), 24);
    }

    private static void promise5() {
        NeededLists x = new NeededLists();
        due("count", x.count(5, -2), 0);
        ask("item 3", x, x.at(0, 3), -1, 0, 0, 5);
        due("item 2 is not worked", x.worked(0, 2), false);
        due("count", x.count(Long.MAX_VALUE, 1), 1);
        due("going round", x.at(1, 1), Long.MIN_VALUE);
        needsRoom("count", (y, a) -> y.count(1, 1));
    }

    private static void promise6() {
        NeededLists x = new NeededLists();
        due("iterate", x.iterate(2, 3, 1), 0);
        ask("3 to the 4", x, x.at(0, 4), 81, 0, 0, 10);
        due("items ahead are worked", x.worked(0, 1), true);
        x.iterate(8, 3, 1);
        ask("op 8", x, x.at(1, 4), 3, 0, 0, 6);
        due("needs none ahead", x.worked(1, 3), false);
        due("first", x.at(1, 0), 1);
        x.iterate(7, 3, 1);
        ask("op 7", x, x.at(2, 4), 1, 0, 0, 10);
        x.iterate(3, 0, 1);
        ask("DIVISION", x, x.at(3, 2), 0, 2, 1, 6);
        due("ahead of it", x.at(3, 0), 1);
        x.steps(5000);
        x.iterate(0, 1, 0);
        ask("the last cell there is", x, x.at(4, 399), 399, 0, 0, 800);
        for (int op : new int[] {-1, 9, Integer.MAX_VALUE}) {
            thrown("iterate op " + op, BAD, () -> x.iterate(op, 1, 1));
            thrown("iterate op without room", BAD, () -> filled().iterate(op, 1, 1));
        }
        due("lists", x.lists(), 5);
        needsRoom("iterate", (y, a) -> y.iterate(0, 1, 1));
    }

    private static void ops() {
        long low = Long.MIN_VALUE;
        long high = Long.MAX_VALUE;
        long[][] rows = {
            {0, 3, 4, 7}, {0, high, 1, low}, {1, 3, 4, -1}, {1, low, 1, high}, {2, 3, -4, -12}, {2, high, 2, -2},
            {3, 7, 2, 3}, {3, -7, 2, -4}, {3, 7, -2, -4}, {3, -7, -2, 3}, {3, low, -1, low}, {3, 6, 3, 2},
            {4, 7, 2, 1}, {4, -7, 2, 1}, {4, 7, -2, -1}, {4, -7, -2, -1}, {4, low, -1, 0}, {4, 6, 3, 0},
            {5, 3, 4, 3}, {5, high, low, low}, {6, 3, 4, 4}, {6, high, low, high}, {7, 3, 4, 3}, {8, 3, 4, 4}};
        for (long[] r : rows) {
            items("op " + r[0] + " of " + r[1] + ", " + r[2], x -> x.map(row(x, r[1]), (int) r[0], r[2]), r[3]);
        }
        item("x / 0", x -> x.map(row(x, 1), 3, 0), 0, 0, 2, 1, 4);
        item("x rest 0", x -> x.map(row(x, 1), 4, 0), 0, 0, 2, 1, 4);
    }

    private static void conds() {
        long low = Long.MIN_VALUE;
        long[][] rows = {
            {0, 3, 4, 1}, {0, 4, 4, 0}, {1, 4, 4, 1}, {1, 3, 4, 0}, {2, 5, 4, 1}, {2, 4, 4, 0}, {2, low, 0, 0},
            {3, 6, 3, 1}, {3, 7, 3, 0}, {3, -6, 3, 1}, {3, 6, -3, 1}, {3, 0, 3, 1}, {3, 0, 0, 1}, {3, 4, 0, 0},
            {3, low, -1, 1}};
        for (long[] r : rows) {
            NeededLists x = new NeededLists();
            row(x, r[1]);
            due("cond " + r[0] + " of " + r[1] + ", " + r[2], x.find(0, (int) r[0], r[2]), r[3] == 1 ? 0 : -1);
        }
    }

    private static int holeRow(NeededLists x) {
        x.put(1);
        x.hole(0);
        x.put(3);
        return x.given(false);
    }

    private static void promise7() {
        items("map", x -> x.map(row(x, 1, 2, 3), 2, 10), 10, 20, 30);
        item("map needs its item alone", x -> x.map(holeRow(x), 0, 1), 2, 4, 0, 0, 8);
        item("what FAILS, FAILS here", x -> x.map(holeRow(x), 0, 1), 1, 0, 1, 0, 6);
        item("op 8 needs no item", x -> x.map(holeRow(x), 8, 5), 1, 5, 0, 0, 5);
        item("op 7", x -> x.map(holeRow(x), 7, 5), 0, 1, 0, 0, 4);
        item("x is needed ahead of the 0", x -> x.map(holeRow(x), 3, 0), 1, 0, 1, 0, 6);
        needsList("map", (x, a) -> x.map(a, 0, 1));
        needsList("map, op wrong, too", (x, a) -> x.map(a, 9, 1));
        needsRoom("map", (x, a) -> x.map(a, 0, 1));
        thrown("map op", BAD, () -> filled().map(0, 9, 1));
        thrown("map op", BAD, () -> filled().map(0, -1, 1));
        thrown("map list", NO_LIST, () -> filled().map(24, -1, 1));
    }

    private static void promise8() {
        items("both", x -> x.both(row(x, 1, 2, 3), row(x, 10, 20), 0), 11, 22);
        items("both", x -> x.both(row(x, 1), row(x, 10, 20), 1), -9);
        NeededLists x = new NeededLists();
        row(x, 1);
        holeRow(x);
        x.both(0, 1, 0);
        ask("size", x, x.size(2), 1, 0, 0, 2 + 1 + 2);
        due("no cell of B where A has the END", x.reached(1), 1);
        item("op 7", y -> y.both(row(y, 5), holeRow(y), 7), 0, 5, 0, 0, 5);
        item("op 8", y -> y.both(holeRow(y), row(y, 5, 6), 8), 1, 6, 0, 0, 8);
        NeededLists z = new NeededLists();
        z.hole(1);
        z.given(false);
        z.hole(0);
        z.given(false);
        z.both(0, 1, 3);
        ask("x first", z, z.at(2, 0), 0, 2, 4, 5);
        due("y is not needed then", z.worked(1, 0), false);
        item("DIVISION", y -> y.both(row(y, 5), row(y, 0), 4), 0, 0, 2, 1, 6);
        needsList("both", (y, a) -> y.both(a, 0, 0));
        needsList("both", (y, a) -> y.both(0, a, 9));
        needsRoom("both", (y, a) -> y.both(a, a, 0));
        thrown("both op", BAD, () -> filled().both(0, 1, 9));
        thrown("both op", BAD, () -> filled().both(0, 1, -1));
    }

    private static void promise9() {
        items("scan", x -> x.scan(row(x, 1, 2, 3), 0, 10), 10, 11, 13, 16);
        items("scan of none", x -> x.scan(row(x), 0, 10), 10);
        NeededLists x = new NeededLists();
        row(x, 1, 2, 3);
        x.scan(0, 1, 0);
        ask("item 0", x, x.at(1, 0), 0, 0, 0, 2);
        due("without A", x.reached(0), 0);
        ask("item 2", x, x.at(1, 2), -3, 0, 0, 2 + 2 + 2 + 2);
        item("op 8", y -> y.scan(holeRow(y), 8, 5), 3, 3, 0, 0, 3 + 4 + 2);
        item("op 7", y -> y.scan(holeRow(y), 7, 5), 2, 5, 0, 0, 2 + 3 + 3);
        NeededLists z = new NeededLists();
        holeRow(z);
        z.scan(0, 0, 0);
        ask("what FAILS goes on", z, z.at(1, 3), 0, 1, 0, 3 + 4 + 2 + 4);
        due("y is not needed then", z.worked(0, 2), false);
        needsList("scan", (y, a) -> y.scan(a, 0, 0));
        needsList("scan", (y, a) -> y.scan(a, 9, 0));
        needsRoom("scan", (y, a) -> y.scan(a, 0, 0));
        thrown("scan op", BAD, () -> filled().scan(0, 9, 0));
        thrown("scan op", BAD, () -> filled().scan(0, -1, 0));
    }

    private static void promise10() {
        items("take", x -> x.take(row(x, 1, 2, 3), 2), 1, 2);
        items("take more than there are", x -> x.take(row(x, 1, 2, 3), 9), 1, 2, 3);
        NeededLists x = new NeededLists();
        x.given(true);
        x.take(0, 0);
        ask("take none", x, x.size(1), 0, 0, 0, 1);
        due("without A", x.reached(0), 0);
        x.take(0, 1);
        ask("take of a cut list", x, x.size(2), 0, 1, 0, 2);
        x.count(1, 1);
        x.take(3, 400);
        ask("cell 400 is OUT", x, x.size(4), 0, 3, 0, 800);
        due("reached", x.reached(4), 400);
        for (int n : new int[] {-1, 401, Integer.MAX_VALUE, Integer.MIN_VALUE}) {
            thrown("take " + n, BAD, () -> filled().take(0, n));
            thrown("take " + n, NO_LIST, () -> filled().take(24, n));
        }
        needsList("take", (y, a) -> y.take(a, 1));
        needsRoom("take", (y, a) -> y.take(a, 400));
    }

    private static void promise11() {
        items("drop", x -> x.drop(row(x, 1, 2, 3), 2), 3);
        items("drop all", x -> x.drop(row(x, 1, 2, 3), 3));
        items("drop more", x -> x.drop(row(x, 1, 2, 3), 400));
        items("drop none", x -> x.drop(row(x, 1, 2, 3), 0), 1, 2, 3);
        NeededLists x = new NeededLists();
        x.count(1, 1);
        x.drop(0, 3);
        ask("drop", x, x.at(1, 0), 4, 0, 0, 6);
        due("the item is A's", x.worked(0, 3), true);
        due("and shared", x.worked(1, 0), true);
        due("no other", x.worked(0, 2), false);
        x.drop(0, 400);
        ask("cell 400 of A", x, x.at(2, 0), 0, 3, 0, 396);
        due("reached", x.reached(2), 0);
        item("what FAILS ahead", y -> y.drop(y.given(true), 5), 0, 0, 1, 0, 2);
        for (int n : new int[] {-1, 401}) {
            thrown("drop " + n, BAD, () -> filled().drop(0, n));
        }
        needsList("drop", (y, a) -> y.drop(a, -1));
        needsRoom("drop", (y, a) -> y.drop(a, 0));
    }

    private static void promise12() {
        items("keep", x -> x.keep(row(x, 1, 5, 2, 6, 3), 2, 2), 5, 6, 3);
        items("keep none", x -> x.keep(row(x, 1, 2), 2, 2));
        NeededLists x = new NeededLists();
        x.count(1, 1);
        x.keep(0, 3, 3);
        ask("keep", x, x.at(1, 0), 3, 0, 0, 3 + 3 + 1);
        due("cells of A", x.reached(0), 3);
        x.steps(5);
        ask("OUT on the way", x, x.at(1, 1), 0, 3, 0, 5);
        due("what was done stays", x.reached(0), 6);
        due("that item is not worked", x.worked(0, 5), false);
        ask("and is not done again", x, x.at(1, 1), 6, 0, 0, 2);
        item("an item that FAILS", y -> y.keep(holeRow(y), 0, 100), 1, 0, 1, 0, 2 + 2 + 2);
        NeededLists z = new NeededLists();
        holeRow(z);
        z.keep(0, 0, 100);
        ask("a cell that FAILS", z, z.size(1), 0, 1, 0, 6);
        due("is the last one", z.reached(1), 2);
        for (int cond : new int[] {-1, 4, Integer.MAX_VALUE}) {
            thrown("keep cond " + cond, BAD, () -> filled().keep(0, cond, 0));
            thrown("keep cond " + cond, NO_LIST, () -> filled().keep(-1, cond, 0));
        }
        needsList("keep", (y, a) -> y.keep(a, 0, 0));
        needsRoom("keep", (y, a) -> y.keep(a, 0, 0));
    }

    private static void promise13() {
        items("during", x -> x.during(row(x, 1, 2, 9, 1), 0, 5), 1, 2);
        items("during all", x -> x.during(row(x, 1, 2), 0, 5), 1, 2);
        NeededLists x = new NeededLists();
        row(x, 1, 2, 9, 1);
        x.during(0, 0, 5);
        ask("during", x, x.size(1), 2, 0, 0, 3 + 3 + 3);
        due("no cell behind", x.reached(0), 3);
        item("an item that FAILS", y -> y.during(holeRow(y), 0, 5), 1, 0, 1, 0, 6);
        item("a cell that FAILS", y -> y.during(y.given(true), 0, 5), 0, 0, 1, 0, 2);
        needsList("during", (y, a) -> y.during(a, 9, 0));
        needsRoom("during", (y, a) -> y.during(a, 0, 0));
        thrown("during cond", BAD, () -> filled().during(0, 4, 0));
        thrown("during cond", BAD, () -> filled().during(0, -1, 0));
    }

    private static void promise14() {
        items("after", x -> x.after(row(x, 1, 2, 9, 1), 0, 5), 9, 1);
        items("after all", x -> x.after(row(x, 1, 2), 0, 5));
        NeededLists x = new NeededLists();
        row(x, 1, 2, 9, 1);
        x.after(0, 0, 5);
        ask("after", x, x.size(1), 2, 0, 0, 3 + 3 + 1 + 2 + 2);
        due("items behind are not worked", x.worked(0, 3), false);
        due("the first one is", x.worked(1, 0), true);
        item("an item that FAILS", y -> y.after(holeRow(y), 0, 5), 0, 0, 1, 0, 5);
        item("one that FAILS behind it", y -> y.after(holeRow(y), 1, 5), 2, 3, 0, 0, 3 + 3 + 2);
        needsList("after", (y, a) -> y.after(a, 9, 0));
        needsRoom("after", (y, a) -> y.after(a, 0, 0));
        thrown("after cond", BAD, () -> filled().after(0, 4, 0));
        thrown("after cond", BAD, () -> filled().after(0, -1, 0));
    }

    private static void promise15() {
        items("join", x -> x.join(row(x, 1, 2), row(x, 3)), 1, 2, 3);
        items("join with none", x -> x.join(row(x), row(x, 3)), 3);
        items("join of none", x -> x.join(row(x), row(x)));
        items("join with itself", x -> {
            int a = row(x, 1, 2);
            return x.join(a, a);
        }, 1, 2, 1, 2);
        NeededLists x = new NeededLists();
        row(x, 1, 2);
        row(x, 3);
        x.join(0, 1);
        ask("in A", x, x.at(2, 1), 2, 0, 0, 5);
        due("without A's END", x.reached(0), 2);
        due("without B", x.reached(1), 0);
        ask("in B", x, x.at(2, 2), 3, 0, 0, 4);
        due("shared", x.worked(1, 0), true);
        item("A breaks off", y -> y.join(y.given(true), row(y, 1)), 0, 0, 1, 0, 2);
        needsList("join", (y, a) -> y.join(a, 0));
        needsList("join", (y, a) -> y.join(0, a));
        needsRoom("join", (y, a) -> y.join(a, a));
        thrown("join", NO_LIST, () -> filled().join(0, 24));
    }

    private static void round() {
        NeededLists x = new NeededLists();
        row(x, 1, 2, 3);
        x.other(0, 0);
        ask("round", x, x.at(1, 4), 2, 0, 0, 4 + 5 + 1);
        due("shared", x.worked(1, 1), true);
        x.steps(5000);
        ask("it is endless", x, x.size(1), 0, 3, 0, 395);
        item("EMPTY", y -> y.other(row(y), 0), 3, 0, 2, 2, 2);
        item("a list that breaks off", y -> y.other(y.given(true), 0), 0, 0, 1, 0, 2);
    }

    private static void backAndSort() {
        items("back", x -> x.other(row(x, 1, 2, 3), 1), 3, 2, 1);
        items("back of none", x -> x.other(row(x), 1));
        item("back needs no items", x -> x.other(holeRow(x), 1), 0, 3, 0, 0, 6);
        item("back of what breaks off", x -> x.other(x.given(true), 1), 0, 0, 1, 0, 2);
        items("sort", x -> x.other(row(x, 3, -1, Long.MIN_VALUE, 3, Long.MAX_VALUE, 0), 2),
            Long.MIN_VALUE, -1, 0, 3, 3, Long.MAX_VALUE);
        items("sort of none", x -> x.other(row(x), 2));
        NeededLists x = new NeededLists();
        holeRow(x);
        x.other(0, 2);
        ask("sort of what FAILS", x, x.size(1), 0, 1, 0, 4 + 2 + 1);
        due("stops there", x.worked(0, 2), false);
        due("reached", x.reached(1), 1);
        NeededLists y = new NeededLists();
        row(y, 2, 1);
        y.other(0, 2);
        ask("sort", y, y.at(1, 0), 1, 0, 0, 3 + 2 + 1);
        ask("the rest of it", y, y.size(1), 2, 0, 0, 2);
    }

    private static void onceAndRuns() {
        items("once", x -> x.other(row(x, 2, 1, 2, 3, 1), 3), 2, 1, 3);
        item("once: what FAILS", x -> x.other(holeRow(x), 3), 1, 0, 1, 0, 6);
        items("runs", x -> x.other(row(x, 2, 2, 1, 2, 2, 2), 4), 2, 1, 3);
        items("runs of none", x -> x.other(row(x), 4));
        NeededLists x = new NeededLists();
        row(x, 2, 2, 1);
        x.other(0, 4);
        x.steps(2);
        ask("cell 0 needs A's alone", x, x.at(1, 0), 0, 3, 0, 2);
        due("reached", x.reached(1), 1);
        due("A's", x.reached(0), 1);
        x.steps(1000);
        ask("item 0", x, x.at(1, 0), 2, 0, 0, 3 + 2 + 1);
        ask("cell 1", x, x.at(1, 1), 1, 0, 0, 1 + 1 + 1);
        ask("the END", x, x.size(1), 2, 0, 0, 1);
        NeededLists y = new NeededLists();
        holeRow(y);
        y.other(0, 4);
        ask("item 0 FAILS", y, y.at(1, 0), 0, 1, 0, 2 + 3 + 1);
        ask("cell 1, too", y, y.size(1), 0, 1, 0, 1);
        due("reached", y.reached(1), 2);
        NeededLists z = new NeededLists();
        z.count(1, 0);
        z.other(0, 4);
        ask("a run without end", z, z.at(1, 0), 0, 3, 0, 801);
    }

    private static void promise16() {
        round();
        backAndSort();
        onceAndRuns();
        for (int s = 0; s < 5; s++) {
            int sort = s;
            needsList("other", (y, a) -> y.other(a, sort));
            needsRoom("other", (y, a) -> y.other(a, sort));
        }
        for (int sort : new int[] {-1, 5, Integer.MAX_VALUE, Integer.MIN_VALUE}) {
            thrown("other " + sort, BAD, () -> filled().other(0, sort));
            thrown("other " + sort, NO_LIST, () -> filled().other(24, sort));
        }
    }

    private static void promise17() {
        NeededLists x = new NeededLists();
        due("steps", x.steps(1), 1000);
        due("steps", x.steps(5000), 1);
        for (int n : new int[] {0, -1, 5001, Integer.MAX_VALUE, Integer.MIN_VALUE}) {
            thrown("steps " + n, BAD, () -> x.steps(n));
        }
        due("steps", x.steps(3), 5000);
        x.count(1, 1);
        ask("as many as told", x, x.at(0, 2), 0, 3, 0, 3);
        x.steps(1);
        due("is no ask", x.outcome(), 3);
        ask("each ask has them", x, x.at(0, 2), 3, 0, 0, 1);
    }

    private static void promise18() {
        NeededLists x = new NeededLists();
        row(x, 5, 6);
        ask("at", x, x.at(0, 1), 6, 0, 0, 3);
        ask("PLACE", x, x.at(0, 2), 0, 2, 3, 1);
        ask("PLACE", x, x.at(0, Integer.MAX_VALUE), 0, 2, 3, 0);
        thrown("below 0", BAD, () -> x.at(0, -1));
        thrown("below 0", BAD, () -> x.at(0, Integer.MIN_VALUE));
        due("a call that throws changes nothing", x.error(), 3);
        needsList("at", (y, a) -> y.at(a, -1));
        x.count(0, 1);
        ask("all cells there are", x, x.at(1, Integer.MAX_VALUE), 0, 3, 0, 400);
        ask("the last one", x, x.at(1, 399), 399, 0, 0, 1);
    }

    private static void promise19() {
        NeededLists x = new NeededLists();
        holeRow(x);
        ask("size works no item", x, x.size(0), 3, 0, 0, 4);
        x.count(0, 1);
        ask("endless", x, x.size(1), 0, 3, 0, 400);
        x.given(true);
        ask("breaks off", x, x.size(2), 0, 1, 0, 1);
        needsList("size", (y, a) -> y.size(a));
    }

    private static void promise20() {
        NeededLists x = new NeededLists();
        row(x, 2, 3, 4);
        ask("fold", x, x.fold(0, 1, 10), 1, 0, 0, 7);
        due("fold 2", x.fold(0, 2, 1), 24);
        due("fold 5", x.fold(0, 5, 3), 2);
        due("fold 8", x.fold(0, 8, 3), 4);
        row(x);
        ask("fold of none", x, x.fold(1, 8, 3), 3, 0, 0, 1);
        int hole = holeRow(x);
        ask("7 needs no item", x, x.fold(hole, 7, 9), 9, 0, 0, 4);
        due("nor works one", x.worked(hole, 0), false);
        ask("8 the last one alone, but all are worked", x, x.fold(hole, 8, 9), 3, 0, 0, 3);
        int other = holeRow(x);
        ask("what FAILS", x, x.fold(other, 0, 9), 0, 1, 0, 4);
        due("ends it there", x.reached(other), 2);
        x.put(1);
        x.hole(1);
        int ends = x.given(false);
        ask("8: the last one FAILS", x, x.fold(ends, 8, 0), 0, 2, 4, 5);
        int zero = row(x, 1, 0, 1);
        ask("DIVISION", x, x.fold(zero, 3, 8), 0, 2, 1, 4);
        x.put(1);
        int cut = x.given(true);
        ask("the cell behind FAILS", x, x.fold(cut, 0, 8), 0, 1, 0, 3);
        x.steps(3);
        int long4 = row(x, 1, 2, 3, 4);
        ask("each as soon as its cell is reached", x, x.fold(long4, 0, 0), 0, 3, 0, 3);
        due("item 0 was worked ahead of cell 1", x.worked(long4, 0), true);
        due("reached", x.reached(long4), 2);
        thrown("fold op", BAD, () -> x.fold(0, 9, 0));
        thrown("fold op", BAD, () -> x.fold(0, -1, 0));
        needsList("fold", (y, a) -> y.fold(a, 9, 0));
    }

    private static void promise21() {
        NeededLists x = new NeededLists();
        row(x, 2, 3, 4);
        ask("find", x, x.find(0, 2, 2), 1, 0, 0, 4);
        ask("none", x, x.find(0, 2, 9), -1, 0, 0, 3);
        int hole = holeRow(x);
        ask("ahead of the hole", x, x.find(hole, 1, 1), 0, 0, 0, 2);
        ask("the hole", x, x.find(hole, 1, 3), 0, 1, 0, 2);
        x.count(0, 1);
        x.steps(5000);
        ask("endless", x, x.find(2, 0, 0), 0, 3, 0, 800);
        thrown("find cond", BAD, () -> x.find(0, 4, 0));
        thrown("find cond", BAD, () -> x.find(0, -1, 0));
        needsList("find", (y, a) -> y.find(a, 4, 0));
    }

    private static void promise22() {
        NeededLists x = new NeededLists();
        holeRow(x);
        ask("last", x, x.last(0), 3, 0, 0, 5);
        due("it alone", x.worked(0, 0), false);
        row(x);
        ask("EMPTY", x, x.last(1), 0, 2, 2, 1);
        x.put(1);
        x.hole(1);
        x.given(false);
        ask("FAILS", x, x.last(2), 0, 2, 4, 4);
        x.put(1);
        x.given(true);
        ask("breaks off", x, x.last(3), 0, 1, 0, 2);
        x.steps(2);
        row(x, 1, 2);
        ask("OUT", x, x.last(4), 0, 3, 0, 2);
        needsList("last", (y, a) -> y.last(a));
    }

    private static void promises23To25() {
        NeededLists x = new NeededLists();
        x.count(1, 1);
        due("outcome ahead of an ask", x.outcome(), 0);
        due("error ahead of an ask", x.error(), 0);
        due("spent ahead of an ask", x.spent(), 0);
        x.map(0, 3, 0);
        ask("an ERROR", x, x.at(1, 0), 0, 2, 1, 4);
        thrown("a call that throws", NO_LIST, () -> x.at(2, 0));
        x.reached(0);
        x.put(1);
        x.worked(0, 0);
        due("the latest ask's outcome", x.outcome(), 2);
        due("the latest ask's error", x.error(), 1);
        due("the latest ask's steps", x.spent(), 4);
        ask("a number wipes it", x, x.at(0, 0), 1, 0, 0, 0);
        x.at(1, 0);
        x.steps(1);
        ask("so does OUT", x, x.at(0, 3), 0, 3, 0, 1);
    }

    private static void promise26() {
        NeededLists x = new NeededLists();
        row(x, 1);
        due("reached", x.reached(0), 0);
        x.at(0, 0);
        due("reached", x.reached(0), 1);
        x.size(0);
        due("the END, too", x.reached(0), 2);
        x.given(true);
        x.size(1);
        due("one that FAILS, too", x.reached(1), 1);
        needsList("reached", (y, a) -> y.reached(a));
    }

    private static void promise27() {
        NeededLists x = new NeededLists();
        row(x, 1, 2);
        x.take(0, 2);
        x.at(0, 0);
        due("worked", x.worked(0, 0), true);
        due("no cell was reached", x.worked(1, 0), false);
        x.size(1);
        due("it SHARES", x.worked(1, 0), true);
        due("not yet", x.worked(1, 1), false);
        x.last(0);
        due("worked there, so here", x.worked(1, 1), true);
        for (int k : new int[] {2, 3, 400, -1, Integer.MAX_VALUE, Integer.MIN_VALUE}) {
            due("no such item: " + k, x.worked(0, k), false);
            due("no such item: " + k, x.worked(1, k), false);
        }
        needsList("worked", (y, a) -> y.worked(a, 0));
    }

    private static void promise28() {
        NeededLists x = new NeededLists();
        for (int i = 0; i < 24; i++) {
            due("lists", x.lists(), i);
            due("count", x.count(0, 0), i);
        }
        due("lists", x.lists(), 24);
        thrown("a 25th", FULL, () -> x.count(0, 0));
        due("lists", x.lists(), 24);
    }

    /** 24 lists, each of the one ahead of it: no run of calls may make the machine's stack give out. */
    private static void longChains() {
        for (int sort = 0; sort < 5; sort++) {
            NeededLists x = new NeededLists();
            row(x, 3, 1, 2, 2);
            for (int i = 0; i < 23; i++) {
                x.other(i, sort);
            }
            x.steps(5000);
            x.at(23, 0);
            due("a chain of " + sort + ": outcome", x.outcome(), 0);
        }
        NeededLists x = new NeededLists();
        x.iterate(0, 1, 0);
        for (int i = 0; i < 23; i++) {
            if (i % 2 == 0) {
                x.drop(i, 30);
            } else {
                x.scan(i, 0, 0);
            }
        }
        x.steps(5000);
        for (int i = 0; i < 5; i++) {
            x.at(23, 10);
        }
        due("a chain of scans: reached", x.reached(23) > 0, true);
    }

    public static void main(String[] args) {
        ops();
        conds();
        promise1();
        promise2();
        promise3();
        promise4();
        promise5();
        promise6();
        promise7();
        promise8();
        promise9();
        promise10();
        promise11();
        promise12();
        promise13();
        promise14();
        promise15();
        promise16();
        promise17();
        promise18();
        promise19();
        promise20();
        promise21();
        promise22();
        promises23To25();
        promise26();
        promise27();
        promise28();
        longChains();
        System.out.println(wrong == 0 ? "all answers are as due" : wrong + " answers are not as due");
        if (wrong != 0) {
            System.exit(1);
        }
    }
}
