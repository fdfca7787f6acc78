import java.util.ArrayList;
import java.util.List;

/**
 * Each sentence of "Terms", "LISTS" and "ASKS" that names a boundary case, for each list and each ask
 * that it speaks of. Answers are reckoned by hand from the words of the document.
 *
 * <p>Lists are called a, b, c .. by their numbers 0, 1, 2 .. In a trace "b1" is the STEP that reaches
 * cell 1 of list b, and "b1*" the STEP that works its item.
 *
 * <p>No object is called more than 512 times: what it answers then is free.
 */
public final class BoundaryTest {
    private static final long LOW = Long.MIN_VALUE;
    private static final long HIGH = Long.MAX_VALUE;
    private static final String[] ERRORS = {"none", "DIVISION", "EMPTY", "PLACE", "OWN"};
    private static int wrong = 0;

    interface Making {
        int make(NeededLists x);
    }

    interface Of {
        int make(NeededLists x, int a);
    }

    interface Ask {
        long on(NeededLists x, int a);
    }

    private static void due(String what, String got, String want) {
        if (!got.equals(want)) {
            wrong++;
            System.out.println(what + " answered " + got + ", due is " + want);
        }
    }

    private static void due(String what, long got, long want) {
        due(what, Long.toString(got), Long.toString(want));
    }

    private static void due(String what, boolean got, boolean want) {
        due(what, Boolean.toString(got), Boolean.toString(want));
    }

    /** What the ask told: its number, or why there is none. */
    private static String told(NeededLists x, long answer) {
        int outcome = x.outcome();
        int error = x.error();
        if (outcome != 2 && error != 0) {
            return "OUTCOME " + outcome + " with ERROR " + error;
        }
        if (outcome == 0) {
            return Long.toString(answer);
        }
        if (answer != 0) {
            return "OUTCOME " + outcome + " with the number " + answer;
        }
        if (outcome == 2) {
            return error > 0 && error < ERRORS.length ? ERRORS[error] : "ERROR " + error;
        }
        return outcome == 1 ? "UNDEFINED" : outcome == 3 ? "OUT" : "OUTCOME " + outcome;
    }

    private static String askNew(Making making, Ask ask, int steps) {
        NeededLists x = new NeededLists();
        int a = making.make(x);
        x.steps(steps);
        return told(x, ask.on(x, a));
    }

    /** In a new object, with all steps that can be had. */
    private static void tells(String what, Making making, Ask ask, String want) {
        due(what, askNew(making, ask, 5000), want);
    }

    private static void tells(String what, Making making, Ask ask, long want) {
        tells(what, making, ask, Long.toString(want));
    }

    // ---- lists to begin with

    /** Items: numbers, "U" for UNDEFINED, "O" for an OWN ERROR; "cut" at the end breaks it off. */
    private static int row(NeededLists x, Object... items) {
        boolean cut = false;
        for (Object item : items) {
            if (item.equals("U")) {
                x.hole(0);
            } else if (item.equals("O")) {
                x.hole(1);
            } else if (item.equals("cut")) {
                cut = true;
            } else {
                x.put(((Number) item).longValue());
            }
        }
        return x.given(cut);
    }

    private static Making given(Object... items) {
        return x -> row(x, items);
    }

    private static Making of(Making making, Of of) {
        return x -> of.make(x, making.make(x));
    }

    private static Ask at(int k) {
        return (x, a) -> x.at(a, k);
    }

    private static Ask fold(int op, long b) {
        return (x, a) -> x.fold(a, op, b);
    }

    private static Ask find(int cond, long c) {
        return (x, a) -> x.find(a, cond, c);
    }

    private static final Ask SIZE = (x, a) -> x.size(a);
    private static final Ask LAST = (x, a) -> x.last(a);

    // ---- traces

    /** How far each list is: the cells that were reached, a '*' where the item was worked. */
    private static String[][] far(NeededLists x) {
        String[][] all = new String[x.lists()][];
        for (int a = 0; a < all.length; a++) {
            all[a] = new String[x.reached(a)];
            for (int k = 0; k < all[a].length; k++) {
                all[a][k] = x.worked(a, k) ? "*" : "";
            }
        }
        return all;
    }

    private static String told(String[][] far) {
        StringBuilder b = new StringBuilder();
        for (String[] list : far) {
            for (String cell : list) {
                b.append('.').append(cell);
            }
            b.append(' ');
        }
        return b.toString();
    }

    /** The one step between two states; an item that lists SHARE is called by the first of these. */
    private static String step(String[][] before, String[][] after) {
        StringBuilder cells = new StringBuilder();
        String item = "";
        for (int a = 0; a < after.length; a++) {
            for (int k = 0; k < after[a].length; k++) {
                String name = (char) ('a' + a) + "" + k;
                if (k >= before[a].length) {
                    cells.append(cells.length() == 0 ? "" : "+").append(name);
                } else if (!after[a][k].equals(before[a][k]) && item.isEmpty()) {
                    item = name + after[a][k];
                }
            }
        }
        if (cells.length() == 0) {
            return item.isEmpty() ? "nothing" : item;
        }
        return item.isEmpty() ? cells.toString() : cells + "+" + item;
    }

    /**
     * With 1, 2, 3 .. steps, each time in a new object: what one step more does; each ask that is OUT
     * spends all its steps; the one that is not has spent as many as the trace is long; what was done
     * stays, so that an ask behind it spends but the rest; and a step at a time comes to the same.
     */
    private static void trace(String what, Making making, Ask ask, String steps, String want) {
        int length = steps.isEmpty() ? 0 : steps.split(" ").length;
        StringBuilder did = new StringBuilder();
        NeededLists fresh = new NeededLists();
        making.make(fresh);
        String[][] before = far(fresh);
        for (int n = 1; n <= length; n++) {
            NeededLists x = new NeededLists();
            int a = making.make(x);
            x.steps(n);
            String got = told(x, ask.on(x, a));
            due(what + ", " + n + " steps", got, n < length ? "OUT" : want);
            due(what + ", " + n + " steps: spent", x.spent(), n);
            String[][] now = far(x);
            did.append(n == 1 ? "" : " ").append(step(before, now));
            before = now;
            x.steps(5000);
            due(what + ", the rest behind " + n + " steps", told(x, ask.on(x, a)), want);
            due(what + ", the rest behind " + n + " steps: spent", x.spent(), length - n);
            if (n < length) {
                due(what + ", the same ask again", told(x, ask.on(x, a)), want);
                due(what + ", the same ask again: spent", x.spent(), 0);
            }
        }
        due(what + ": steps", did.toString(), steps);
        atOnce(what, making, ask, length, want, told(before));
        stepByStep(what, making, ask, length, want, told(before));
    }

    private static void trace(String what, Making making, Ask ask, String steps, long want) {
        trace(what, making, ask, steps, Long.toString(want));
    }

    private static void atOnce(String what, Making making, Ask ask, int length, String want, String far) {
        NeededLists x = new NeededLists();
        int a = making.make(x);
        due(what + " at once", told(x, ask.on(x, a)), want);
        due(what + " at once: spent", x.spent(), length);
        due(what + " at once: what was done", told(far(x)), far);
    }

    private static void stepByStep(String what, Making making, Ask ask, int length, String want, String far) {
        NeededLists x = new NeededLists();
        int a = making.make(x);
        x.steps(1);
        for (int n = 1; n < length; n++) {
            due(what + " step by step", told(x, ask.on(x, a)), "OUT");
        }
        due(what + " step by step", told(x, ask.on(x, a)), want);
        due(what + " step by step: spent", x.spent(), Math.min(1, length));
        due(what + " step by step: what was done", told(far(x)), far);
    }

    // ---- Terms: "spent when all that it needs is done; if none is left then, it is not done .."

    private static void stepsOfGiven() {
        trace("item 0", given(4, "U", "O"), at(0), "a0 a0*", 4);
        trace("UNDEFINED item", given(4, "U", "O"), at(1), "a0 a1 a1*", "UNDEFINED");
        trace("OWN item", given(4, "U", "O"), at(2), "a0 a1 a2 a2*", "OWN");
        trace("at the END", given(4, "U", "O"), at(3), "a0 a1 a2 a3", "PLACE");
        trace("behind the END", given(4, "U", "O"), at(4), "a0 a1 a2 a3", "PLACE");
        trace("far behind the END", given(4), at(Integer.MAX_VALUE), "a0 a1", "PLACE");
        trace("behind CELL 400, but the END is ahead", given(4), at(400), "a0 a1", "PLACE");
        trace("at the cut", given(4, "cut"), at(1), "a0 a1", "UNDEFINED");
        trace("behind the cut", given(4, "cut"), at(400), "a0 a1", "UNDEFINED");
        trace("ahead of the cut", given(4, "cut"), at(0), "a0 a0*", 4);
        trace("an empty list", given(), at(0), "a0", "PLACE");
        trace("an empty cut list", given("cut"), at(0), "a0", "UNDEFINED");
    }

    private static void stepsOfNumberLists() {
        trace("COUNT", x -> x.count(5, 3), at(2), "a0 a1 a2 a2*", 11);
        trace("COUNT, item 0", x -> x.count(5, 3), at(0), "a0 a0*", 5);
        for (int op = 0; op <= 7; op++) {
            int o = op;
            long[] want = {13, -3, 80, 0, 1, 4, 5, 5};
            trace("ITERATE " + op, x -> x.iterate(o, 4, 5), at(2), "a0 a1 a2 a0* a1* a2*", want[op]);
        }
        trace("ITERATE 8", x -> x.iterate(8, 4, 5), at(2), "a0 a1 a2 a2*", 4);
        trace("ITERATE 8, item 0", x -> x.iterate(8, 4, 5), at(0), "a0 a0*", 5);
        for (int op = 3; op <= 4; op++) {
            int o = op;
            trace("ITERATE, item 0 divides nothing", x -> x.iterate(o, 0, 5), at(0), "a0 a0*", 5);
            trace("ITERATE, item 1", x -> x.iterate(o, 0, 5), at(1), "a0 a1 a0* a1*", "DIVISION");
            trace("ITERATE, item 2", x -> x.iterate(o, 0, 5), at(2), "a0 a1 a2 a0* a1* a2*", "DIVISION");
        }
    }

    private static void stepsOfMap() {
        long[] want = {7, -1, 12, 0, 3, 3, 4, 3};
        for (int op = 0; op <= 7; op++) {
            int o = op;
            Making map = of(given(1, "U", 3), (x, a) -> x.map(a, o, 4));
            trace("MAP " + op, map, at(2), "a0 b0 a1 b1 a2 b2 a2* b2*", want[op]);
            trace("MAP " + op + " of UNDEFINED", map, at(1), "a0 b0 a1 b1 a1* b1*", "UNDEFINED");
        }
        Making map = of(given(1, "U", 3), (x, a) -> x.map(a, 8, 4));
        trace("MAP 8", map, at(2), "a0 b0 a1 b1 a2 b2 b2*", 4);
        trace("MAP 8 needs no item", map, at(1), "a0 b0 a1 b1 b1*", 4);
        trace("MAP, the END", map, at(3), "a0 b0 a1 b1 a2 b2 a3 b3", "PLACE");
        trace("MAP, the END", of(given(), (x, a) -> x.map(a, 0, 4)), SIZE, "a0 b0", 0);
        trace("MAP, a cell that FAILS", of(given(1, "cut"), (x, a) -> x.map(a, 0, 4)), SIZE,
            "a0 b0 a1 b1", "UNDEFINED");
        trace("MAP over 0", of(given(1), (x, a) -> x.map(a, 3, 0)), at(0), "a0 b0 a0* b0*", "DIVISION");
        trace("MAP rest of 0", of(given(1), (x, a) -> x.map(a, 4, 0)), at(0), "a0 b0 a0* b0*", "DIVISION");
        trace("MAP over 0, x FAILS first", of(given("O"), (x, a) -> x.map(a, 3, 0)), at(0),
            "a0 b0 a0* b0*", "OWN");
    }

    private static Making both(Making left, Making right, int op) {
        return x -> {
            int a = left.make(x);
            return x.both(a, right.make(x), op);
        };
    }

    private static void stepsOfBoth() {
        long[] want = {22, -18, 40, 0, 2, 2, 20};
        for (int op = 0; op <= 6; op++) {
            trace("BOTH " + op, both(given(1, 2, 3), given(10, 20), op), at(1),
                "a0 b0 c0 a1 b1 c1 a1* b1* c1*", want[op]);
            trace("BOTH " + op + ", x FAILS ahead of y", both(given("U"), given("O"), op), at(0),
                "a0 b0 c0 a0* c0*", "UNDEFINED");
            trace("BOTH " + op + ", y FAILS", both(given(1), given("O"), op), at(0),
                "a0 b0 c0 a0* b0* c0*", "OWN");
        }
        trace("BOTH 7 needs x alone", both(given(1), given("U"), 7), at(0), "a0 b0 c0 a0* c0*", 1);
        trace("BOTH 8 needs y alone", both(given("U"), given(2), 8), at(0), "a0 b0 c0 b0* c0*", 2);
        trace("BOTH 7, x FAILS", both(given("O"), given(1), 7), at(0), "a0 b0 c0 a0* c0*", "OWN");
        trace("BOTH 8, y FAILS", both(given(1), given("O"), 8), at(0), "a0 b0 c0 b0* c0*", "OWN");
        trace("BOTH over 0", both(given(1), given(0), 3), at(0), "a0 b0 c0 a0* b0* c0*", "DIVISION");
        trace("BOTH rest of 0", both(given(1), given(0), 4), at(0), "a0 b0 c0 a0* b0* c0*", "DIVISION");
        trace("BOTH, B's END", both(given(1, 2, 3), given(10), 0), SIZE, "a0 b0 c0 a1 b1 c1", 1);
        trace("BOTH, A's END needs no cell of B", both(given(1), given(10, 20), 0), SIZE, "a0 b0 c0 a1 c1", 1);
        trace("BOTH, A's END ahead of B's cut", both(given(1), given(10, "cut"), 0), SIZE, "a0 b0 c0 a1 c1", 1);
        trace("BOTH, A's cut ahead of B's END", both(given("cut"), given(), 0), SIZE, "a0 c0", "UNDEFINED");
        trace("BOTH, B's cut", both(given(1), given("cut"), 0), SIZE, "a0 b0 c0", "UNDEFINED");
        trace("BOTH of a list and itself", of(given(6), (x, a) -> x.both(a, a, 0)), at(0), "a0 b0 a0* b0*", 12);
    }

    private static Making scan(Making making, int op, long b) {
        return of(making, (x, a) -> x.scan(a, op, b));
    }

    private static void stepsOfScan() {
        long[] want = {13, 7, 20, 5, 0, 1, 10};
        for (int op = 0; op <= 6; op++) {
            trace("SCAN " + op, scan(given(1, 2), op, 10), at(2),
                "b0 a0 b1 a1 b2 b0* a0* b1* a1* b2*", want[op]);
            trace("SCAN " + op + " of UNDEFINED", scan(given("U", "O"), op, 10), at(2),
                "b0 a0 b1 a1 b2 b0* a0* b1* b2*", "UNDEFINED");
        }
        trace("SCAN 7", scan(given("U", "O"), 7, 10), at(2), "b0 a0 b1 a1 b2 b0* b1* b2*", 10);
        trace("SCAN 8", scan(given("U", 2), 8, 10), at(2), "b0 a0 b1 a1 b2 a1* b2*", 2);
        trace("SCAN 8, item 0", scan(given("U", 2), 8, 10), at(0), "b0 b0*", 10);
        trace("SCAN, cell 0 without A", scan(given("cut"), 0, 10), at(0), "b0 b0*", 10);
        trace("SCAN, item 0 needs no item", scan(given("O"), 3, 10), at(0), "b0 b0*", 10);
        trace("SCAN over 0", scan(given(0), 3, 10), at(1), "b0 a0 b1 b0* a0* b1*", "DIVISION");
        trace("SCAN rest of 0", scan(given(0), 4, 10), at(1), "b0 a0 b1 b0* a0* b1*", "DIVISION");
        trace("SCAN, the END", scan(given(1), 0, 10), SIZE, "b0 a0 b1 a1 b2", 2);
        trace("SCAN of none", scan(given(), 0, 10), SIZE, "b0 a0 b1", 1);
        trace("SCAN, a cell that FAILS", scan(given(1, "cut"), 0, 10), SIZE, "b0 a0 b1 a1 b2", "UNDEFINED");
    }

    // ---- LISTS: "cell n is the END (without A)", "(the END, or what FAILS, ahead of that is so here)"

    private static Making take(Making making, int n) {
        return of(making, (x, a) -> x.take(a, n));
    }

    private static Making drop(Making making, int n) {
        return of(making, (x, a) -> x.drop(a, n));
    }

    private static void stepsOfTake() {
        trace("TAKE 0", take(given(1), 0), SIZE, "b0", 0);
        trace("TAKE 0", take(given("cut"), 0), SIZE, "b0", 0);
        trace("TAKE 0", take(given("cut"), 0), at(0), "b0", "PLACE");
        trace("TAKE 0", take(given("cut"), 0), LAST, "b0", "EMPTY");
        trace("TAKE 1 of none", take(given(), 1), SIZE, "a0 b0", 0);
        trace("TAKE 1 of a cut list", take(given("cut"), 1), SIZE, "a0 b0", "UNDEFINED");
        trace("TAKE 1", take(given(1, "cut"), 1), SIZE, "a0 b0 b1", 1);
        trace("TAKE 2", take(given(1, 2, 3), 2), SIZE, "a0 b0 a1 b1 b2", 2);
        trace("TAKE 3 of 3", take(given(1, 2, 3), 3), SIZE, "a0 b0 a1 b1 a2 b2 b3", 3);
        trace("TAKE 4 of 3", take(given(1, 2, 3), 4), SIZE, "a0 b0 a1 b1 a2 b2 a3 b3", 3);
        trace("TAKE 400 of 1", take(given(1), 400), SIZE, "a0 b0 a1 b1", 1);
        trace("TAKE SHARES", take(given("U", 2), 2), at(1), "a0 b0 a1 b1 a1*", 2);
        trace("TAKE SHARES what FAILS", take(given("O"), 1), at(0), "a0 b0 a0*", "OWN");
    }

    private static void stepsOfDrop() {
        trace("DROP 0", drop(given(1), 0), SIZE, "a0 b0 a1 b1", 1);
        trace("DROP 0 of a cut list", drop(given(1, "cut"), 0), SIZE, "a0 b0 a1 b1", "UNDEFINED");
        trace("DROP 2", drop(given("U", "O", 3), 2), at(0), "a0 a1 a2 b0 a2*", 3);
        trace("DROP 2", drop(given("U", "O", 3), 2), SIZE, "a0 a1 a2 b0 a3 b1", 1);
        trace("DROP 3 of 3", drop(given(1, 2, 3), 3), SIZE, "a0 a1 a2 a3 b0", 0);
        trace("DROP 4 of 3", drop(given(1, 2, 3), 4), SIZE, "a0 a1 a2 a3 b0", 0);
        trace("DROP 399 of 1", drop(given(1), 399), SIZE, "a0 a1 b0", 0);
        trace("DROP 400 of 1", drop(given(1), 400), SIZE, "a0 a1 b0", 0);
        trace("DROP 400 of none", drop(given(), 400), LAST, "a0 b0", "EMPTY");
        trace("DROP 1, cut there", drop(given(1, "cut"), 1), SIZE, "a0 a1 b0", "UNDEFINED");
        trace("DROP 2, cut ahead", drop(given(1, "cut"), 2), SIZE, "a0 a1 b0", "UNDEFINED");
        trace("DROP 400, cut ahead", drop(given("cut"), 400), at(0), "a0 b0", "UNDEFINED");
        trace("DROP 1, cut behind", drop(given(1, 2, "cut"), 1), SIZE, "a0 a1 b0 a2 b1", "UNDEFINED");
        trace("DROP 2, an ERROR ahead", drop(of(given(), (x, a) -> x.other(a, 0)), 2), SIZE, "a0 b0 c0", "EMPTY");
    }

    // ---- LISTS: "the END of A is its END; what FAILS there, cell or item, FAILS here"

    private static Making keep(Making making, int cond, long c) {
        return of(making, (x, a) -> x.keep(a, cond, c));
    }

    private static Making during(Making making, int cond, long c) {
        return of(making, (x, a) -> x.during(a, cond, c));
    }

    private static Making after(Making making, int cond, long c) {
        return of(making, (x, a) -> x.after(a, cond, c));
    }

    private static Making other(Making making, int sort) {
        return of(making, (x, a) -> x.other(a, sort));
    }

    private static void stepsOfKeep() {
        trace("KEEP", keep(given(1, 5, 2, 6), 2, 2), at(0), "a0 a0* a1 a1* b0", 5);
        trace("KEEP", keep(given(1, 5, 2, 6), 2, 2), at(1), "a0 a0* a1 a1* b0 a2 a2* a3 a3* b1", 6);
        trace("KEEP", keep(given(5, 1, 6), 2, 2), SIZE, "a0 a0* b0 a1 a1* a2 a2* b1 a3 b2", 2);
        trace("KEEP none", keep(given(1, 2), 2, 2), SIZE, "a0 a0* a1 a1* a2 b0", 0);
        trace("KEEP of none", keep(given(), 2, 2), SIZE, "a0 b0", 0);
        trace("KEEP, an item FAILS", keep(given(5, "U", 6), 2, 2), SIZE, "a0 a0* b0 a1 a1* b1", "UNDEFINED");
        trace("KEEP, the first item FAILS", keep(given("O", 6), 2, 2), at(0), "a0 a0* b0", "OWN");
        trace("KEEP, a cell FAILS", keep(given(5, "cut"), 2, 2), SIZE, "a0 a0* b0 a1 b1", "UNDEFINED");
        trace("KEEP, ahead of what FAILS", keep(given(5, "U"), 2, 2), at(0), "a0 a0* b0", 5);
    }

    private static void stepsOfDuring() {
        trace("DURING", during(given(1, 2, 9, 1), 0, 5), SIZE, "a0 a0* b0 a1 a1* b1 a2 a2* b2", 2);
        trace("DURING none", during(given(9, 1), 0, 5), SIZE, "a0 a0* b0", 0);
        trace("DURING all", during(given(1), 0, 5), SIZE, "a0 a0* b0 a1 b1", 1);
        trace("DURING of none", during(given(), 0, 5), SIZE, "a0 b0", 0);
        trace("DURING, item", during(given(1, 2), 0, 5), at(1), "a0 a0* b0 a1 a1* b1", 2);
        trace("DURING, an item FAILS", during(given(1, "O"), 0, 5), SIZE, "a0 a0* b0 a1 a1* b1", "OWN");
        trace("DURING, a cell FAILS", during(given(1, "cut"), 0, 5), SIZE, "a0 a0* b0 a1 b1", "UNDEFINED");
        trace("DURING ended ahead of what FAILS", during(given(9, "O"), 0, 5), SIZE, "a0 a0* b0", 0);
    }

    private static void stepsOfAfter() {
        trace("AFTER", after(given(1, 9, 2), 0, 5), SIZE, "a0 a0* a1 a1* b0 a2 b1 a3 b2", 2);
        trace("AFTER, item 0", after(given(1, 9, 2), 0, 5), at(0), "a0 a0* a1 a1* b0", 9);
        trace("AFTER, one behind it", after(given(1, 9, 2), 0, 5), at(1), "a0 a0* a1 a1* b0 a2 b1 a2*", 2);
        trace("AFTER all", after(given(1, 2), 0, 5), SIZE, "a0 a0* a1 a1* a2 b0", 0);
        trace("AFTER of none", after(given(), 0, 5), SIZE, "a0 b0", 0);
        trace("AFTER nothing", after(given(9, "U"), 0, 5), SIZE, "a0 a0* b0 a1 b1 a2 b2", 2);
        trace("AFTER, an item FAILS", after(given(1, "O", 9), 0, 5), at(0), "a0 a0* a1 a1* b0", "OWN");
        trace("AFTER, a cell FAILS", after(given(1, "cut"), 0, 5), at(0), "a0 a0* a1 b0", "UNDEFINED");
        trace("AFTER, a cell behind FAILS", after(given(9, "cut"), 0, 5), SIZE, "a0 a0* b0 a1 b1", "UNDEFINED");
        trace("AFTER, an item behind FAILS", after(given(9, "O"), 0, 5), at(1), "a0 a0* b0 a1 b1 a1*", "OWN");
    }

    private static Making join(Making left, Making right) {
        return x -> {
            int a = left.make(x);
            return x.join(a, right.make(x));
        };
    }

    private static void stepsOfJoin() {
        trace("JOIN", join(given(1, 2), given(3)), SIZE, "a0 c0 a1 c1 a2 b0 c2 b1 c3", 3);
        trace("JOIN, in A", join(given(1, 2), given(3)), at(1), "a0 c0 a1 c1 a1*", 2);
        trace("JOIN, in B", join(given(1, 2), given(3)), at(2), "a0 c0 a1 c1 a2 b0 c2 b0*", 3);
        trace("JOIN, A has none", join(given(), given(3)), SIZE, "a0 b0 c0 b1 c1", 1);
        trace("JOIN, B has none", join(given(3), given()), SIZE, "a0 c0 a1 b0 c1", 1);
        trace("JOIN of none", join(given(), given()), SIZE, "a0 b0 c0", 0);
        trace("JOIN, A is cut", join(given(1, "cut"), given(3)), SIZE, "a0 c0 a1 c1", "UNDEFINED");
        trace("JOIN, B is cut", join(given(1), given("cut")), SIZE, "a0 c0 a1 b0 c1", "UNDEFINED");
        trace("JOIN, an item of A FAILS", join(given("O"), given(3)), at(0), "a0 c0 a0*", "OWN");
        trace("JOIN, behind it", join(given("O"), given(3)), at(1), "a0 c0 a1 b0 c1 b0*", 3);
        trace("JOIN of a list and itself", of(given(1), (x, a) -> x.join(a, a)), SIZE, "a0 b0 a1 b1 b2", 2);
    }

    // ---- LISTS: "cell 0 FAILS with EMPTY if A has none"

    private static void stepsOfRound() {
        trace("ROUND, first time", other(given(1, 2), 0), at(1), "a0 b0 a1 b1 a1*", 2);
        trace("ROUND, again", other(given(1, 2), 0), at(2), "a0 b0 a1 b1 a2 b2 a0*", 1);
        trace("ROUND, and again", other(given(1, 2), 0), at(5), "a0 b0 a1 b1 a2 b2 b3 b4 b5 a1*", 2);
        trace("ROUND of one", other(given(7), 0), at(3), "a0 b0 a1 b1 b2 b3 a0*", 7);
        trace("ROUND, a cut list", other(given(1, "cut"), 0), at(1), "a0 b0 a1 b1", "UNDEFINED");
        trace("ROUND, a cut list", other(given("cut"), 0), at(0), "a0 b0", "UNDEFINED");
        trace("ROUND, an item FAILS", other(given(1, "O"), 0), at(3), "a0 b0 a1 b1 a2 b2 b3 a1*", "OWN");
        for (Ask ask : new Ask[] {at(0), at(1), at(400), SIZE, LAST, fold(0, 1), fold(7, 1), fold(8, 1), find(0, 0)}) {
            trace("ROUND of none", other(given(), 0), ask, "a0 b0", "EMPTY");
        }
    }

    private static void stepsOfBackAndSort() {
        trace("BACK", other(given("U", "O", 3), 1), at(0), "a0 a1 a2 a3 b0 a2*", 3);
        trace("BACK, to the first", other(given(1, "O", "U"), 1), at(2), "a0 a1 a2 a3 b0 b1 b2 a0*", 1);
        trace("BACK, the END", other(given(1, 2), 1), SIZE, "a0 a1 a2 b0 b1 b2", 2);
        trace("BACK of none", other(given(), 1), SIZE, "a0 b0", 0);
        trace("BACK of a cut list", other(given(1, "cut"), 1), at(0), "a0 a1 b0", "UNDEFINED");
        trace("BACK, an item FAILS", other(given("O", 2), 1), at(1), "a0 a1 a2 b0 b1 a0*", "OWN");
        trace("SORT", other(given(3, 1, 2), 2), at(0), "a0 a1 a2 a3 a0* a1* a2* b0", 1);
        trace("SORT, the END", other(given(2, 1), 2), SIZE, "a0 a1 a2 a0* a1* b0 b1 b2", 2);
        trace("SORT of none", other(given(), 2), SIZE, "a0 b0", 0);
        trace("SORT of one", other(given(5), 2), LAST, "a0 a1 a0* b0 b1", 5);
        trace("SORT of a cut list", other(given(1, "cut"), 2), at(0), "a0 a1 b0", "UNDEFINED");
        trace("SORT, an item FAILS", other(given(3, "O", "U"), 2), at(0), "a0 a1 a2 a3 a0* a1* b0", "OWN");
    }

    private static void stepsOfOnceAndRuns() {
        trace("ONCE", other(given(2, 2, 1, 2), 3), SIZE, "a0 a0* b0 a1 a1* a2 a2* b1 a3 a3* a4 b2", 2);
        trace("ONCE of none", other(given(), 3), SIZE, "a0 b0", 0);
        trace("ONCE, an item FAILS", other(given(2, "O", 3), 3), SIZE, "a0 a0* b0 a1 a1* b1", "OWN");
        trace("ONCE, a cell FAILS", other(given(2, "cut"), 3), SIZE, "a0 a0* b0 a1 b1", "UNDEFINED");
        trace("RUNS, item 0", other(given(2, 2, 1, "O"), 4), at(0), "a0 b0 a0* a1 a1* a2 a2* b0*", 2);
        trace("RUNS, item 1", other(given(2, 2, 1), 4), at(1), "a0 b0 a0* a1 a1* a2 a2* b1 a3 b1*", 1);
        trace("RUNS, the END", other(given(2, 2, 1), 4), SIZE, "a0 b0 a0* a1 a1* a2 a2* b1 a3 b2", 2);
        trace("RUNS of one", other(given(2), 4), SIZE, "a0 b0 a0* a1 b1", 1);
        trace("RUNS of one", other(given(2), 4), at(0), "a0 b0 a0* a1 b0*", 1);
        trace("RUNS of none", other(given(), 4), SIZE, "a0 b0", 0);
        trace("RUNS, cut at once", other(given("cut"), 4), SIZE, "a0 b0", "UNDEFINED");
        trace("RUNS, item 0, cut", other(given(2, "cut"), 4), at(0), "a0 b0 a0* a1 b0*", "UNDEFINED");
        trace("RUNS, cell 1, cut", other(given(2, "cut"), 4), SIZE, "a0 b0 a0* a1 b1", "UNDEFINED");
        trace("RUNS, item 0, the first FAILS", other(given("O", 2), 4), at(0), "a0 b0 a0* b0*", "OWN");
        trace("RUNS, cell 1, the first FAILS", other(given("O", 2), 4), SIZE, "a0 b0 a0* b1", "OWN");
        trace("RUNS, item 0, the next FAILS", other(given(2, "O"), 4), at(0), "a0 b0 a0* a1 a1* b0*", "OWN");
        trace("RUNS, cell 1, the next FAILS", other(given(2, "O"), 4), SIZE, "a0 b0 a0* a1 a1* b1", "OWN");
        trace("RUNS, not past another NUMBER", other(given(2, 1, "U"), 4), at(0), "a0 b0 a0* a1 a1* b0*", 1);
        trace("RUNS, item 1", other(given(2, 1, "U"), 4), at(1), "a0 b0 a0* a1 a1* b1 a2 a2* b1*", "UNDEFINED");
        trace("RUNS, cell 2", other(given(2, 1, "U"), 4), SIZE, "a0 b0 a0* a1 a1* b1 a2 a2* b2", "UNDEFINED");
    }

    // ---- ASKS

    private static void stepsOfAsks() {
        trace("size", given("U", "O"), SIZE, "a0 a1 a2", 2);
        trace("size of none", given(), SIZE, "a0", 0);
        trace("size, cut", given(1, "cut"), SIZE, "a0 a1", "UNDEFINED");
        trace("last", given("U", 2), LAST, "a0 a1 a2 a1*", 2);
        trace("last of one", given(2), LAST, "a0 a1 a0*", 2);
        trace("last of none", given(), LAST, "a0", "EMPTY");
        trace("last, cut", given(1, "cut"), LAST, "a0 a1", "UNDEFINED");
        trace("last, cut at once", given("cut"), LAST, "a0", "UNDEFINED");
        trace("last FAILS", given(1, "O"), LAST, "a0 a1 a2 a1*", "OWN");
        trace("find", given(2, 3), find(1, 3), "a0 a0* a1 a1*", 1);
        trace("find, the first", given(2, 3), find(1, 2), "a0 a0*", 0);
        trace("find, the first of two", given(1, 3, 3), find(1, 3), "a0 a0* a1 a1*", 1);
        trace("find none", given(2, 3), find(1, 9), "a0 a0* a1 a1* a2", -1);
        trace("find in none", given(), find(1, 9), "a0", -1);
        trace("find, an item FAILS", given(2, "O", 9), find(1, 9), "a0 a0* a1 a1*", "OWN");
        trace("find, a cell FAILS", given(2, "cut"), find(1, 9), "a0 a0* a1", "UNDEFINED");
        trace("find, ahead of what FAILS", given(9, "O"), find(1, 9), "a0 a0*", 0);
        long[] want = {16, 6, 66, 1, 1, 2, 11};
        for (int op = 0; op <= 6; op++) {
            trace("fold " + op, given(2, 3), fold(op, 11), "a0 a0* a1 a1* a2", want[op]);
            trace("fold " + op + " of none", given(), fold(op, 10), "a0", 10);
            trace("fold " + op + ", an item FAILS", given("O"), fold(op, 10), "a0 a0*", "OWN");
            trace("fold " + op + ", a cell FAILS", given(2, "cut"), fold(op, 10), "a0 a0* a1", "UNDEFINED");
        }
        trace("fold over 0", given(0), fold(3, 10), "a0 a0*", "DIVISION");
        trace("fold rest of 0", given(0), fold(4, 10), "a0 a0*", "DIVISION");
        trace("fold 7 needs no item", given("U", "O"), fold(7, 10), "a0 a1 a2", 10);
        trace("fold 7 of none", given(), fold(7, 10), "a0", 10);
        trace("fold 7, a cell FAILS", given("U", "cut"), fold(7, 10), "a0 a1", "UNDEFINED");
        trace("fold 8: all are worked", given(2, 3), fold(8, 10), "a0 a0* a1 a1* a2", 3);
        trace("fold 8 needs the last one alone", given("U", 3), fold(8, 10), "a0 a0* a1 a1* a2", 3);
        trace("fold 8, the last one FAILS", given("U", "O"), fold(8, 10), "a0 a0* a1 a1* a2", "OWN");
        trace("fold 8 of none", given(), fold(8, 10), "a0", 10);
        trace("fold 8, a cell FAILS", given(2, "cut"), fold(8, 10), "a0 a0* a1", "UNDEFINED");
    }

    // ---- Terms: "a NUMBER (64 bits, going round)", "3, 4: DIVISION if y is 0"

    private static final Object[][] OPS = {
        {0, 3, 4, 7}, {0, HIGH, 1, LOW}, {0, LOW, -1, HIGH}, {0, LOW, LOW, 0}, {0, HIGH, HIGH, -2},
        {1, 3, 4, -1}, {1, LOW, 1, HIGH}, {1, HIGH, -1, LOW}, {1, 0, LOW, LOW}, {1, LOW, HIGH, 1},
        {2, 3, -4, -12}, {2, HIGH, 2, -2}, {2, LOW, 2, 0}, {2, LOW, -1, LOW}, {2, 1L << 32, 1L << 32, 0},
        {2, HIGH, HIGH, 1}, {2, 3037000500L, 3037000500L, -9223372036709301616L},
        {3, 7, 2, 3}, {3, -7, 2, -4}, {3, 7, -2, -4}, {3, -7, -2, 3}, {3, 6, 3, 2}, {3, -6, 3, -2}, {3, 6, -3, -2},
        {3, 0, 5, 0}, {3, 1, 5, 0}, {3, -1, 5, -1}, {3, 1, -5, -1}, {3, LOW, -1, LOW}, {3, LOW, 1, LOW},
        {3, LOW, HIGH, -2}, {3, HIGH, LOW, -1}, {3, LOW, LOW, 1}, {3, HIGH, 2, HIGH / 2},
        {4, 7, 2, 1}, {4, -7, 2, 1}, {4, 7, -2, -1}, {4, -7, -2, -1}, {4, 6, 3, 0}, {4, -6, 3, 0}, {4, 0, 5, 0},
        {4, -1, 5, 4}, {4, 1, -5, -4}, {4, LOW, -1, 0}, {4, LOW, HIGH, HIGH - 1}, {4, HIGH, LOW, -1},
        {4, -1, HIGH, HIGH - 1}, {4, 1, LOW, LOW + 1},
        {5, 3, 4, 3}, {5, 4, 3, 3}, {5, HIGH, LOW, LOW}, {5, -1, 0, -1}, {5, 4, 4, 4},
        {6, 3, 4, 4}, {6, 4, 3, 4}, {6, HIGH, LOW, HIGH}, {6, -1, 0, 0}, {6, 4, 4, 4},
        {7, 3, 4, 3}, {7, HIGH, LOW, HIGH}, {7, 3, 0, 3}, {8, 3, 4, 4}, {8, HIGH, LOW, LOW}, {8, 3, 0, 0},
        {3, 5, 0, "DIVISION"}, {3, 0, 0, "DIVISION"}, {3, LOW, 0, "DIVISION"},
        {4, 5, 0, "DIVISION"}, {4, 0, 0, "DIVISION"}, {4, LOW, 0, "DIVISION"},
        {0, 5, 0, 5}, {1, 5, 0, 5}, {2, 5, 0, 0}, {5, 5, 0, 0}, {6, 5, 0, 5}};

    private static void opsEverywhere() {
        for (Object[] r : OPS) {
            int op = (Integer) r[0];
            long x = ((Number) r[1]).longValue();
            long y = ((Number) r[2]).longValue();
            String want = r[3].toString();
            String what = "op " + op + " of " + x + " and " + y + " in ";
            tells(what + "ITERATE", n -> n.iterate(op, y, x), at(1), want);
            tells(what + "MAP", n -> n.map(row(n, x), op, y), at(0), want);
            tells(what + "BOTH", n -> n.both(row(n, x), row(n, y), op), at(0), want);
            tells(what + "SCAN", n -> n.scan(row(n, y), op, x), at(1), want);
            tells(what + "fold", n -> row(n, y), fold(op, x), want);
        }
    }

    private static void numbersGoRound() {
        tells("COUNT over the top", x -> x.count(HIGH, 1), at(1), LOW);
        tells("COUNT below the bottom", x -> x.count(LOW, -1), at(1), HIGH);
        tells("COUNT by much", x -> x.count(0, HIGH), at(3), HIGH - 2);
        tells("COUNT by little", x -> x.count(1, LOW), at(2), 1);
        tells("COUNT by little", x -> x.count(1, LOW), at(399), LOW + 1);
        tells("COUNT by 0", x -> x.count(LOW, 0), at(399), LOW);
        tells("COUNT, its last one", x -> x.count(-7, 3), at(399), -7 + 399 * 3);
        tells("ITERATE goes round", x -> x.iterate(2, 2, 1), at(63), LOW);
        tells("ITERATE goes round to 0", x -> x.iterate(2, 2, 1), at(64), 0);
        tells("put of the least", given(LOW), at(0), LOW);
        tells("put of the greatest", given(HIGH), at(0), HIGH);
        tells("a sum goes round", given(HIGH, HIGH, 2), fold(0, 0), 0);
        tells("SCAN goes round", scan(given(HIGH, 1), 0, 0), at(2), LOW);
    }

    // ---- Terms: "3 x is a multiple of c (of 0: only 0)"

    private static final long[][] CONDS = {
        {0, 3, 4, 1}, {0, 4, 4, 0}, {0, 5, 4, 0}, {0, LOW, HIGH, 1}, {0, HIGH, LOW, 0}, {0, -1, 0, 1}, {0, LOW, LOW, 0},
        {1, 3, 4, 0}, {1, 4, 4, 1}, {1, 5, 4, 0}, {1, LOW, LOW, 1}, {1, LOW, HIGH, 0}, {1, 1L << 32, 0, 0},
        {2, 3, 4, 0}, {2, 4, 4, 0}, {2, 5, 4, 1}, {2, LOW, HIGH, 0}, {2, HIGH, LOW, 1}, {2, 0, -1, 1}, {2, HIGH, HIGH, 0},
        {3, 6, 3, 1}, {3, 7, 3, 0}, {3, -6, 3, 1}, {3, -7, 3, 0}, {3, 6, -3, 1}, {3, 7, -3, 0}, {3, 0, 3, 1},
        {3, 3, 6, 0}, {3, 3, 3, 1}, {3, 3, 1, 1}, {3, 3, -1, 1}, {3, LOW, -1, 1}, {3, LOW, LOW, 1}, {3, HIGH, LOW, 0},
        {3, 0, 0, 1}, {3, 1, 0, 0}, {3, -1, 0, 0}, {3, HIGH, 0, 0}, {3, LOW, 0, 0}, {3, 0, LOW, 1}};

    private static void condsEverywhere() {
        for (long[] r : CONDS) {
            int cond = (int) r[0];
            boolean meets = r[3] == 1;
            String what = "cond " + cond + " of " + r[1] + " by " + r[2] + " in ";
            tells(what + "find", given(r[1]), find(cond, r[2]), meets ? 0 : -1);
            tells(what + "KEEP", keep(given(r[1]), cond, r[2]), SIZE, meets ? 1 : 0);
            tells(what + "DURING", during(given(r[1]), cond, r[2]), SIZE, meets ? 1 : 0);
            tells(what + "AFTER", after(given(r[1]), cond, r[2]), SIZE, meets ? 0 : 1);
        }
    }

    // ---- Terms: "What needs something that FAILS, FAILS likewise."

    private static final Of[] OF_ONE = {
        (x, a) -> x.map(a, 0, 1), (x, a) -> x.map(a, 8, 1), (x, a) -> x.both(a, x.count(1, 1), 0),
        (x, a) -> x.both(x.count(1, 1), a, 0), (x, a) -> x.scan(a, 0, 1), (x, a) -> x.take(a, 3),
        (x, a) -> x.drop(a, 0), (x, a) -> x.drop(a, 2), (x, a) -> x.keep(a, 2, LOW), (x, a) -> x.during(a, 2, LOW),
        (x, a) -> x.after(a, 1, 77), (x, a) -> x.join(a, x.count(1, 1)), (x, a) -> x.join(row(x), a),
        (x, a) -> x.other(a, 0), (x, a) -> x.other(a, 1), (x, a) -> x.other(a, 2), (x, a) -> x.other(a, 3),
        (x, a) -> x.other(a, 4)};
    private static final String[] NAMES = {
        "MAP", "MAP 8", "BOTH, A", "BOTH, B", "SCAN", "TAKE", "DROP 0", "DROP 2", "KEEP", "DURING", "AFTER", "JOIN, A",
        "JOIN, B", "ROUND", "BACK", "SORT", "ONCE", "RUNS"};
    private static final int SCAN = 4;

    private static void failsAsCell(String why, Making cell0Fails) {
        for (int i = 0; i < OF_ONE.length; i++) {
            Making making = of(cell0Fails, OF_ONE[i]);
            String what = NAMES[i] + " of a list whose cell 0 FAILS: ";
            int cell = i == SCAN ? 1 : 0;
            tells(what + "at", making, at(cell), why);
            tells(what + "at behind it", making, at(5), why);
            tells(what + "size", making, SIZE, why);
            tells(what + "last", making, LAST, why);
            tells(what + "fold", making, fold(0, 0), why);
            tells(what + "fold 7", making, fold(7, 0), why);
            tells(what + "fold 8", making, fold(8, 0), why);
            tells(what + "find", making, find(1, 99), why);
            NeededLists x = new NeededLists();
            int a = making.make(x);
            x.size(a);
            due(what + "reached", x.reached(a), cell + 1);
            due(what + "worked", x.worked(a, cell), false);
        }
    }

    /** DROP 2 has no such item, and MAP 8 does not need it. */
    private static void failsAsItem(String why, Making item0Fails) {
        for (int i = 0; i < OF_ONE.length; i++) {
            if (NAMES[i].equals("DROP 2") || NAMES[i].equals("MAP 8")) {
                continue;
            }
            Making making = of(item0Fails, OF_ONE[i]);
            String what = NAMES[i] + " of a list whose item 0 FAILS: ";
            tells(what + "at", making, at(i == SCAN ? 1 : 0), why);
            tells(what + "fold", making, fold(0, 0), why);
            tells(what + "find", making, find(1, 99), why);
        }
        for (int i = 8; i <= 10; i++) {
            tells(NAMES[i] + " FAILS as cell", of(item0Fails, OF_ONE[i]), SIZE, why);
        }
        for (int i = 15; i <= 17; i++) {
            tells(NAMES[i] + " FAILS as cell", of(item0Fails, OF_ONE[i]), SIZE, why);
        }
    }

    private static void whatFails() {
        Making division = of(given(1), (x, a) -> x.map(a, 3, 0));
        Making empty = other(given(), 0);
        failsAsCell("UNDEFINED", given("cut"));
        failsAsCell("OWN", keep(given("O"), 0, 0));
        failsAsCell("DIVISION", keep(division, 0, 0));
        failsAsCell("EMPTY", empty);
        failsAsItem("UNDEFINED", given("U"));
        failsAsItem("OWN", given("O"));
        failsAsItem("DIVISION", division);
        failsAsItem("EMPTY", other(x -> x.join(row(x, 1), x.other(row(x), 0)), 4));
    }

    // ---- Terms: "Who would reach CELL 400 of a list is OUT, too."

    /** Lists that go on behind cell 399, and what their item 399 is. */
    private static final Object[][] LONG = {
        {"COUNT", (Making) x -> x.count(0, 1), 399L},
        {"ITERATE", (Making) x -> x.iterate(0, 1, 0), 399L},
        {"MAP", (Making) x -> x.map(x.count(0, 1), 2, 2), 798L},
        {"BOTH", (Making) x -> x.both(x.count(0, 1), x.count(1, 1), 0), 799L},
        {"SCAN", (Making) x -> x.scan(x.count(1, 0), 0, 0), 399L},
        {"TAKE 400", (Making) x -> x.take(x.count(0, 1), 400), 399L},
        {"DROP 0", (Making) x -> x.drop(x.count(0, 1), 0), 399L},
        {"KEEP", (Making) x -> x.keep(x.count(0, 1), 2, -1), 399L},
        {"DURING", (Making) x -> x.during(x.count(0, 1), 2, -1), 399L},
        {"AFTER", (Making) x -> x.after(x.count(0, 1), 0, 0), 399L},
        {"JOIN, A", (Making) x -> x.join(x.count(0, 1), row(x)), 399L},
        {"JOIN, B", (Making) x -> x.join(row(x), x.count(0, 1)), 399L},
        {"JOIN, B's cell 0", (Making) x -> x.join(x.take(x.count(0, 1), 399), x.count(7, 1)), 7L},
        {"ROUND", (Making) x -> x.other(row(x, 5, 6, 7), 0), 5L},
        {"ROUND of an endless list", (Making) x -> x.other(x.count(0, 1), 0), 399L},
        {"ONCE", (Making) x -> x.other(x.count(0, 1), 3), 399L}};

    private static void cell400() {
        for (Object[] r : LONG) {
            Making making = (Making) r[1];
            String what = r[0] + ": ";
            tells(what + "item 399", making, at(399), (Long) r[2]);
            tells(what + "item 400", making, at(400), "OUT");
            tells(what + "item 401", making, at(401), "OUT");
            tells(what + "the greatest k", making, at(Integer.MAX_VALUE), "OUT");
            tells(what + "size", making, SIZE, "OUT");
            tells(what + "last", making, LAST, "OUT");
            tells(what + "fold", making, fold(0, 0), "OUT");
            tells(what + "fold 7", making, fold(7, 0), "OUT");
            tells(what + "fold 8", making, fold(8, 0), "OUT");
            tells(what + "find", making, find(0, -1), "OUT");
            NeededLists x = new NeededLists();
            int a = making.make(x);
            x.steps(5000);
            x.at(a, 400);
            due(what + "reached", x.reached(a), 400);
            due(what + "the item is not worked", x.worked(a, 400), false);
            x.at(a, 400);
            due(what + "again", x.outcome(), 3);
            due(what + "no step is spent", x.spent(), 0);
            due(what + "nor reached", x.reached(a), 400);
            due(what + "what was done stays", told(x, x.at(a, 399)), r[2].toString());
        }
        tells("find in the last cell", x -> x.count(0, 1), find(1, 399), 399);
        tells("find behind the last cell", x -> x.count(0, 1), find(1, 400), "OUT");
        whoNeedsCell400();
    }

    /** Those who need CELL 400 of another list, for a cell of their own that is ahead of it. */
    private static void whoNeedsCell400() {
        Making endless = x -> x.count(0, 1);
        tells("DROP 399", drop(endless, 399), at(0), 399);
        tells("DROP 399, cell 1", drop(endless, 399), at(1), "OUT");
        tells("DROP 400", drop(endless, 400), at(0), "OUT");
        tells("DROP 400", drop(endless, 400), SIZE, "OUT");
        tells("DROP 1, cell 398", drop(endless, 1), at(398), 399);
        tells("DROP 1, cell 399", drop(endless, 1), at(399), "OUT");
        tells("KEEP the last one", keep(endless, 1, 399), at(0), 399);
        tells("KEEP one behind it", keep(endless, 1, 400), at(0), "OUT");
        tells("KEEP, none is behind it", keep(endless, 1, 399), SIZE, "OUT");
        tells("DURING, up to the last one", during(endless, 0, 399), SIZE, 399);
        tells("DURING, with the last one", during(endless, 0, 400), SIZE, "OUT");
        tells("AFTER, the last one", after(endless, 0, 399), at(0), 399);
        tells("AFTER, one behind it", after(endless, 0, 400), at(0), "OUT");
        tells("AFTER, one behind cell 0", after(endless, 0, 399), at(1), "OUT");
        tells("BACK without end", other(endless, 1), at(0), "OUT");
        tells("SORT without end", other(endless, 2), at(0), "OUT");
        tells("ONCE, all the same", other(x -> x.count(1, 0), 3), at(0), 1);
        tells("ONCE, all the same", other(x -> x.count(1, 0), 3), at(1), "OUT");
        tells("RUNS, all the same", other(x -> x.count(1, 0), 4), at(0), "OUT");
        tells("RUNS, all the same", other(x -> x.count(1, 0), 4), at(1), "OUT");
        tells("RUNS, the last run that is looked through", other(endless, 4), at(398), 1);
        tells("RUNS, cell 399's run", other(endless, 4), at(399), "OUT");
        tells("SCAN, the last item", scan(take(endless, 398), 0, 0), LAST, 397 * 398 / 2);
        cell400NeedsNothing();
        NeededLists x = new NeededLists();
        int back = x.other(x.count(0, 1), 1);
        x.at(back, 0);
        due("BACK without end: A's cells", x.reached(0), 400);
        due("BACK without end: no cell", x.reached(back), 0);
        due("BACK without end: spent", x.spent(), 400);
        NeededLists y = new NeededLists();
        int runs = y.other(y.count(0, 1), 4);
        y.steps(5000);
        y.at(runs, 399);
        due("RUNS: cell 399 is THERE", y.reached(runs), 400);
        due("RUNS: its item is not worked", y.worked(runs, 399), false);
    }

    /** "Who would reach": nothing is done for CELL 400, though what it needs could be had. */
    private static void cell400NeedsNothing() {
        NeededLists x = new NeededLists();
        int a = x.count(0, 1);
        int scan = x.scan(a, 0, 0);
        x.size(scan);
        due("SCAN: A's cells", x.reached(a), 399);
        due("SCAN: spent", x.spent(), 799);
        NeededLists y = new NeededLists();
        a = y.take(y.count(0, 1), 399);
        int b = y.count(0, 1);
        int join = y.join(a, b);
        y.steps(5000);
        y.size(join);
        due("JOIN: B's cells", y.reached(b), 1);
        due("JOIN: spent", y.spent(), 399 + 400 + 1 + 400);
    }

    /** 399 cells and the END in cell 399: all of a list that there can be. */
    private static void cell399IsTheEnd() {
        Making full = take(x -> x.count(0, 1), 399);
        List<Making> makings = new ArrayList<>();
        makings.add(full);
        makings.add(of(full, (x, a) -> x.map(a, 0, 0)));
        makings.add(of(full, (x, a) -> x.both(a, a, 5)));
        makings.add(of(full, (x, a) -> x.take(a, 400)));
        makings.add(of(full, (x, a) -> x.drop(a, 0)));
        makings.add(of(full, (x, a) -> x.keep(a, 2, -1)));
        makings.add(of(full, (x, a) -> x.during(a, 2, -1)));
        makings.add(of(full, (x, a) -> x.after(a, 0, 0)));
        makings.add(of(full, (x, a) -> x.join(a, row(x))));
        makings.add(of(full, (x, a) -> x.join(row(x), a)));
        makings.add(of(full, (x, a) -> x.other(x.other(a, 1), 1)));
        makings.add(of(full, (x, a) -> x.other(a, 2)));
        makings.add(of(full, (x, a) -> x.other(a, 3)));
        makings.add(take(scan(take(x -> x.count(0, 0), 398), 6, 398), 399));
        for (int i = 0; i < makings.size(); i++) {
            tells("a full list " + i + ": size", makings.get(i), SIZE, 399);
            tells("a full list " + i + ": last", makings.get(i), LAST, 398);
            tells("a full list " + i + ": at the END", makings.get(i), at(399), "PLACE");
            tells("a full list " + i + ": behind it", makings.get(i), at(400), "PLACE");
            tells("a full list " + i + ": find none", makings.get(i), find(0, -1), -1);
        }
        tells("RUNS of a full list", other(full, 4), SIZE, 399);
        tells("RUNS of a full list of the same", other(take(x -> x.count(1, 0), 399), 4), at(0), 399);
        tells("BACK of a full list", other(full, 1), at(0), 398);
        tells("BACK of a full list", other(full, 1), at(398), 0);
        tells("SORT of a full list", other(of(full, (x, a) -> x.map(a, 2, -1)), 2), at(398), 0);
        tells("SORT of a full list", other(of(full, (x, a) -> x.map(a, 2, -1)), 2), at(0), -398);
    }

    /** Four full ROWS have 400 items, and the END would be CELL 400. */
    private static void fullRows() {
        Making hundred = x -> {
            for (int i = 0; i < 100; i++) {
                x.put(i);
            }
            return x.given(false);
        };
        Making four = of(hundred, (x, a) -> x.join(x.join(a, a), x.join(a, a)));
        tells("a full ROW", hundred, SIZE, 100);
        tells("a full ROW", hundred, LAST, 99);
        tells("four full ROWS", four, at(399), 99);
        tells("four full ROWS", four, SIZE, "OUT");
        tells("but for one", drop(four, 1), SIZE, "OUT");
        tells("three full ROWS and the rest of one",
            of(hundred, (x, a) -> x.join(x.join(a, a), x.join(a, x.drop(a, 1)))), SIZE, 399);
    }

    // ---- LISTS: SHARES; "of the same the lesser cell"

    private static String items(Making making) {
        NeededLists x = new NeededLists();
        int a = making.make(x);
        x.steps(5000);
        StringBuilder b = new StringBuilder();
        long size = x.size(a);
        for (int k = 0; k < size; k++) {
            b.append(k == 0 ? "" : " ").append(told(x, x.at(a, k)));
        }
        return b.toString();
    }

    private static void orders() {
        due("SORT", items(other(given(3, 1, 2), 2)), "1 2 3");
        due("SORT of the same", items(other(given(2, 1, 2, 1, 2), 2)), "1 1 2 2 2");
        due("SORT of sorted", items(other(given(1, 2, 3, 4), 2)), "1 2 3 4");
        due("SORT of the edges", items(other(given(0, HIGH, -1, LOW, 1), 2)), LOW + " -1 0 1 " + HIGH);
        due("SORT of SORT", items(other(other(given(2, 3, 1), 2), 2)), "1 2 3");
        due("BACK of SORT", items(other(other(given(2, 3, 1), 2), 1)), "3 2 1");
        due("BACK", items(other(given(1, 2, 3), 1)), "3 2 1");
        due("ONCE", items(other(given(3, 1, 3, 2, 1, 3), 3)), "3 1 2");
        due("ONCE of the edges", items(other(given(LOW, HIGH, LOW, 0, HIGH), 3)), LOW + " " + HIGH + " 0");
        due("RUNS", items(other(given(5, 5, 6, 5, 5, 5, 7), 4)), "2 1 3 1");
        due("RUNS of the edges", items(other(given(0, 1L << 32, LOW, HIGH, HIGH, -1), 4)), "1 1 1 2 1");
        due("RUNS of all the same", items(other(given(5, 5, 5), 4)), "3");
        due("RUNS of RUNS", items(other(other(given(1, 2, 2, 3, 3, 4), 4), 4)), "1 2 1");
        due("ROUND", items(take(other(given(1, 2, 3), 0), 8)), "1 2 3 1 2 3 1 2");
        due("JOIN", items(join(given(1, 2), given(3, 4))), "1 2 3 4");
        due("KEEP", items(keep(given(4, 1, 5, 2, 6), 2, 3)), "4 5 6");
        due("DURING", items(during(given(4, 5, 1, 6), 2, 3)), "4 5");
        due("AFTER", items(after(given(4, 5, 1, 6), 2, 3)), "1 6");
        due("DROP", items(drop(given(4, 5, 1, 6), 1)), "5 1 6");
        due("TAKE", items(take(given(4, 5, 1, 6), 3)), "4 5 1");
    }

    /** Item 1 of the list b is item "of" of a: worked through the one, it is worked for the other. */
    private static void shares(String what, Of sharing, int of) {
        NeededLists x = new NeededLists();
        int a = row(x, 1, 2, 3);
        int b = sharing.make(x, a);
        x.at(b, 1);
        due(what + ": worked here", x.worked(b, 1), true);
        due(what + ": worked there", x.worked(a, of), true);
        x.at(a, of);
        due(what + ": nothing is left to do", x.spent(), 0);
        NeededLists y = new NeededLists();
        a = row(y, 1, 2, 3);
        b = sharing.make(y, a);
        y.at(a, of);
        due(what + ": worked, but no cell was reached", y.worked(b, 1), false);
        y.steps(2);
        for (int i = 0; i < 20 && y.reached(b) < 2; i++) {
            y.at(b, 1);
        }
        due(what + ": worked there, so here", y.worked(b, 1), true);
    }

    private static void sharing() {
        shares("TAKE", (x, a) -> x.take(a, 2), 1);
        shares("DROP", (x, a) -> x.drop(a, 1), 2);
        shares("KEEP", (x, a) -> x.keep(a, 2, 1), 2);
        shares("DURING", (x, a) -> x.during(a, 2, 0), 1);
        shares("AFTER", (x, a) -> x.after(a, 1, 1), 2);
        shares("JOIN, A", (x, a) -> x.join(a, row(x)), 1);
        shares("JOIN, B", (x, a) -> x.join(row(x, 9), a), 0);
        shares("ROUND", (x, a) -> x.drop(x.other(a, 0), 3), 1);
        shares("BACK", (x, a) -> x.other(a, 1), 1);
        shares("SORT", (x, a) -> x.other(x.join(row(x, 9), a), 2), 1);
        shares("ONCE", (x, a) -> x.other(a, 3), 1);
        shares("SHARES what SHARES", (x, a) -> x.take(x.other(x.drop(a, 1), 1), 2), 1);
        NeededLists x = new NeededLists();
        int a = row(x, 1, 2);
        int map = x.map(a, 7, 0);
        int scan = x.scan(a, 7, 0);
        int runs = x.other(a, 4);
        x.size(map);
        x.size(scan);
        x.at(a, 0);
        due("MAP has items of its own", x.worked(map, 0), false);
        due("SCAN has items of its own", x.worked(scan, 0), false);
        x.size(runs);
        due("RUNS has items of its own", x.worked(runs, 0), false);
    }

    // ---- ASKS: "(1000 at first)", "as many STEPS as steps() told last"

    /** Each cell that is looked at costs 2 steps for the list and 2 for each MAP of it. */
    private static Making maps(int n) {
        return x -> {
            int a = x.count(0, 1);
            for (int i = 0; i < n; i++) {
                a = x.map(a, 7, 0);
            }
            return a;
        };
    }

    private static void asked(String what, NeededLists x, long answer, String want, int spent) {
        due(what, told(x, answer), want);
        due(what + ": spent", x.spent(), spent);
    }

    private static void stepsOfEachAsk() {
        NeededLists x = new NeededLists();
        int a = maps(1).make(x);
        asked("1000 steps at first", x, x.find(a, 1, 249), "249", 1000);
        NeededLists y = new NeededLists();
        a = maps(1).make(y);
        asked("no 1001 at first", y, y.find(a, 1, 250), "OUT", 1000);
        asked("each ask has as many", y, y.find(a, 1, 399), "399", 600);
        NeededLists z = new NeededLists();
        a = maps(9).make(z);
        due("steps", z.steps(5000), 1000);
        asked("5000 steps", z, z.find(a, 1, 249), "249", 5000);
        NeededLists w = new NeededLists();
        a = maps(9).make(w);
        w.steps(5000);
        asked("no 5001", w, w.find(a, 1, 250), "OUT", 5000);
        due("steps", w.steps(1), 5000);
        asked("1 step", w, w.find(a, 1, 250), "OUT", 1);
        due("steps", w.steps(2), 1);
        asked("2 steps", w, w.find(a, 1, 250), "OUT", 2);
        asked("2 steps", w, w.find(a, 1, 250), "OUT", 2);
        asked("none is needed", w, w.find(a, 1, 249), "249", 0);
    }

    // ---- Terms: "and the ask ends: OUT", though steps are left

    /** One cell that is THERE; its item needs CELL 400 of a list, and so is never worked. */
    private static final Making STUCK = take(other(x -> x.count(1, 0), 4), 1);

    private static void itemThatIsOut() {
        NeededLists x = new NeededLists();
        int stuck = STUCK.make(x);
        x.steps(5000);
        asked("a stuck item", x, x.at(stuck, 0), "OUT", 3 + 399 + 400);
        asked("a stuck item, again", x, x.at(stuck, 0), "OUT", 0);
        due("a stuck item is not worked", x.worked(stuck, 0), false);
        asked("its list has an END", x, x.size(stuck), "1", 1);
        asked("last", x, x.last(stuck), "OUT", 0);
        asked("find", x, x.find(stuck, 0, 0), "OUT", 0);
        for (int op = 0; op <= 8; op++) {
            asked("fold " + op, x, x.fold(stuck, op, 9), op == 7 ? "9" : "OUT", 0);
        }
        int five = row(x, 5);
        int join = x.join(stuck, five);
        for (int op = 0; op <= 8; op++) {
            if (op != 7) {
                asked("fold " + op + " ends there", x, x.fold(join, op, 9), "OUT", op == 0 ? 1 : 0);
            }
        }
        asked("find ends there", x, x.find(join, 1, 5), "OUT", 0);
        due("no cell behind it is reached", x.reached(join), 1);
        due("nor one of B", x.reached(five), 0);
        asked("SORT ends there", x, x.at(x.other(join, 2), 0), "OUT", 1 + 1 + 1 + 1);
        due("no item behind it is worked", x.worked(five, 0), false);
        asked("last needs it not", x, x.last(join), "5", 1);
        asked("fold 7 needs it not", x, x.fold(join, 7, 9), "9", 0);
    }

    private static void listsOfAStuckItem() {
        for (int op = 0; op <= 8; op++) {
            int o = op;
            boolean second = op == 8;
            boolean first = op == 7;
            tells("MAP " + op, of(STUCK, (x, a) -> x.map(a, o, 6)), at(0), second ? "6" : "OUT");
            tells("BOTH " + op, both(STUCK, given(5), op), at(0), second ? "5" : "OUT");
            tells("BOTH " + op + ", B", both(given(5), STUCK, op), at(0), first ? "5" : "OUT");
            tells("BOTH " + op + ", B, x FAILS", both(given("O"), STUCK, op), at(0), second ? "OUT" : "OWN");
            tells("BOTH " + op + ", A ahead of what FAILS", both(STUCK, given("O"), op), at(0), second ? "OWN" : "OUT");
            tells("SCAN " + op, scan(STUCK, op, 4), at(1), first ? "4" : "OUT");
        }
        for (int i = 0; i < OF_ONE.length; i++) {
            String what = NAMES[i] + " of a stuck item";
            boolean cellIsOut = i >= 8 && i <= 10 || i == 15 || i == 16;
            boolean nextIsOut = NAMES[i].equals("RUNS") || NAMES[i].equals("ROUND") || NAMES[i].equals("JOIN, A");
            if (NAMES[i].equals("MAP 8") || NAMES[i].equals("DROP 2")) {
                continue;
            }
            NeededLists x = new NeededLists();
            int a = of(STUCK, OF_ONE[i]).make(x);
            x.steps(5000);
            int k = i == SCAN ? 1 : 0;
            due(what + ": at", told(x, x.at(a, k)), "OUT");
            due(what + ": reached", x.reached(a), cellIsOut ? 0 : k + 1);
            due(what + ": worked", x.worked(a, k), false);
            due(what + ": size", told(x, x.size(a)), cellIsOut || nextIsOut ? "OUT" : Integer.toString(k + 1));
        }
    }

    /** BACK of an endless list: its cell 0 is OUT, and so is all that needs it. */
    private static void cellThatIsOut() {
        Making stuck = other(x -> x.count(0, 1), 1);
        Ask[] asks = {at(5), SIZE, LAST, fold(0, 0), fold(7, 0), fold(8, 0), find(1, 99)};
        for (int i = 0; i < OF_ONE.length; i++) {
            Making making = of(stuck, OF_ONE[i]);
            int k = i == SCAN ? 1 : 0;
            tells(NAMES[i] + " of a stuck cell", making, at(k), "OUT");
            for (Ask ask : asks) {
                tells(NAMES[i] + " of a stuck cell", making, ask, "OUT");
            }
            NeededLists x = new NeededLists();
            int a = making.make(x);
            x.size(a);
            due(NAMES[i] + " of a stuck cell: reached", x.reached(a), k);
            due(NAMES[i] + " of a stuck cell: A's cells", x.reached(0), 400);
            x.size(a);
            due(NAMES[i] + " of a stuck cell: nothing is left to do", x.spent(), 0);
        }
        NeededLists x = new NeededLists();
        int b = row(x, 5);
        x.size(x.both(stuck.make(x), b, 0));
        due("BOTH: no cell of B behind a stuck one of A", x.reached(b), 0);
    }

    // ---- promises 23 to 25: "(0 ahead of one)", "0: none"

    private static void latest(String what, NeededLists x, int outcome, int error, int spent) {
        due(what + ": outcome", x.outcome(), outcome);
        due(what + ": error", x.error(), error);
        due(what + ": spent", x.spent(), spent);
    }

    private static void latestAsk() {
        NeededLists x = new NeededLists();
        latest("a new object", x, 0, 0, 0);
        int full = row(x, 4, "U", "O");
        int none = row(x);
        int cut = row(x, "cut");
        int over = x.map(full, 3, 0);
        latest("ahead of an ask", x, 0, 0, 0);
        x.at(full, 3);
        latest("PLACE", x, 2, 3, 4);
        x.at(full, 1);
        latest("UNDEFINED wipes the ERROR", x, 1, 0, 1);
        x.at(full, 2);
        latest("OWN", x, 2, 4, 1);
        x.at(full, 0);
        latest("a number wipes the ERROR", x, 0, 0, 1);
        x.at(over, 0);
        latest("DIVISION", x, 2, 1, 2);
        x.size(cut);
        latest("UNDEFINED", x, 1, 0, 1);
        x.last(none);
        latest("EMPTY", x, 2, 2, 1);
        x.steps(1);
        latest("steps() is no ask", x, 2, 2, 1);
        x.last(over);
        latest("OUT wipes the ERROR", x, 3, 0, 1);
        x.last(none);
        latest("EMPTY again", x, 2, 2, 0);
        x.reached(full);
        x.worked(full, 0);
        x.lists();
        x.put(1);
        x.hole(0);
        x.given(false);
        x.count(1, 1);
        latest("what is no ask leaves it", x, 2, 2, 0);
        x.find(none, 0, 0);
        latest("-1 is a number", x, 0, 0, 0);
    }

    // ---- promises 26 and 27: "(also the END, or one that FAILS)", "false where no cell was REACHED .."

    private static void reachedBy(String what, Making making, int cells) {
        NeededLists x = new NeededLists();
        int a = making.make(x);
        due(what + ": reached at first", x.reached(a), 0);
        due(what + ": worked at first", x.worked(a, 0), false);
        x.size(a);
        due(what + ": reached", x.reached(a), cells);
        x.at(a, 399);
        due(what + ": reached again", x.reached(a), cells);
        for (int k = 0; k < cells; k++) {
            x.at(a, k);
        }
        due(what + ": the last one has no item", x.worked(a, cells - 1), false);
        for (int k : new int[] {-1, Integer.MIN_VALUE, cells, 399, 400, 401, Integer.MAX_VALUE}) {
            due(what + ": worked " + k, x.worked(a, k), false);
        }
        for (int k = 0; k < cells - 1; k++) {
            due(what + ": worked " + k, x.worked(a, k), true);
        }
    }

    private static void reachedAndWorked() {
        for (Object end : new Object[] {"cut", "end"}) {
            Making a = end.equals("cut") ? given(1, 1, "cut") : given(1, 1);
            reachedBy("GIVEN, " + end, a, 3);
            reachedBy("MAP, " + end, of(a, (x, i) -> x.map(i, 3, 0)), 3);
            reachedBy("BOTH, " + end, of(a, (x, i) -> x.both(i, i, 0)), 3);
            reachedBy("BOTH, " + end, of(a, (x, i) -> x.both(x.count(1, 1), i, 0)), 3);
            reachedBy("SCAN, " + end, scan(a, 0, 0), 4);
            reachedBy("TAKE, " + end, take(a, 3), 3);
            reachedBy("TAKE 1, " + end, take(a, 1), 2);
            reachedBy("DROP, " + end, drop(a, 1), 2);
            reachedBy("KEEP, " + end, keep(a, 1, 1), 3);
            reachedBy("DURING, " + end, during(a, 1, 1), 3);
            reachedBy("DURING none, " + end, during(a, 1, 2), 1);
            reachedBy("AFTER, " + end, after(a, 1, 2), 3);
            reachedBy("JOIN, A " + end, join(a, given("cut")), 3);
            reachedBy("JOIN, B " + end, join(given(1), a), 4);
            reachedBy("ONCE, " + end, other(a, 3), 2);
        }
        reachedBy("ROUND of none", other(given(), 0), 1);
        reachedBy("ROUND of what is cut", other(given(1, "cut"), 0), 2);
        reachedBy("BACK", other(given(1, 2), 1), 3);
        reachedBy("SORT", other(given(1, 2), 2), 3);
        reachedBy("RUNS", other(given(1, 2), 4), 3);
        reachedBy("BACK, cut", other(given(1, "cut"), 1), 1);
        reachedBy("SORT, cut", other(given(1, "cut"), 2), 1);
        NeededLists x = new NeededLists();
        int endless = x.count(1, 1);
        x.at(endless, 2);
        due("reached", x.reached(endless), 3);
        due("worked", x.worked(endless, 2), true);
        due("not worked", x.worked(endless, 1), false);
        due("not reached", x.worked(endless, 3), false);
        due("an item that FAILS was worked", workedWhenAsked(given("U")), true);
        due("an OWN ERROR was worked", workedWhenAsked(given("O")), true);
        due("a DIVISION was worked", workedWhenAsked(x1 -> x1.map(row(x1, 1), 3, 0)), true);
    }

    private static boolean workedWhenAsked(Making making) {
        NeededLists x = new NeededLists();
        int a = making.make(x);
        x.at(a, 0);
        return x.worked(a, 0);
    }

    // ---- promise 4: "which is empty then"

    private static void theRow() {
        NeededLists x = new NeededLists();
        due("given of an empty ROW", x.given(false), 0);
        asked("its size", x, x.size(0), "0", 1);
        due("put", x.put(7), 1);
        due("hole", x.hole(1), 2);
        due("given", x.given(true), 1);
        due("THE ROW is empty then", x.put(8), 1);
        due("given", x.given(false), 2);
        due("and again", x.given(true), 3);
        asked("the first list", x, x.at(1, 0), "7", 2);
        asked("the first list", x, x.at(1, 1), "OWN", 2);
        asked("the first list", x, x.size(1), "UNDEFINED", 1);
        asked("the next one", x, x.last(2), "8", 3);
        asked("the empty cut one", x, x.size(3), "UNDEFINED", 1);
        due("an OWN ERROR in THE ROW does not stay", x.put(1), 1);
        due("put", x.put(2), 2);
        x.given(false);
        asked("items of the new ROW", x, x.fold(4, 0, 0), "3", 5);
    }

    // ---- "An object is used for at most 512 calls"; what one object does is its own

    private static void allCallsOfAnObject() {
        NeededLists x = new NeededLists();
        for (int i = 1; i <= 4; i++) {
            for (int k = 0; k < 100; k++) {
                x.put(i * k);
            }
            due("given", x.given(i == 4), i - 1);
        }
        for (int i = 4; i < 24; i++) {
            due("join", x.join(i - 1, i - 4), i);
        }
        x.steps(5000);
        int calls = 404 + 20 + 1;
        for (; calls < 511; calls++) {
            due("call " + calls, x.at(1, calls % 100), 2 * (calls % 100));
        }
        due("the 512th call", x.at(2, 50), 150);
    }

    private static void objectsOfTheirOwn() {
        NeededLists x = new NeededLists();
        NeededLists y = new NeededLists();
        x.put(1);
        due("another ROW", y.put(2), 1);
        x.given(false);
        due("other lists", y.lists(), 0);
        y.put(3);
        y.given(true);
        x.steps(1);
        due("other steps", y.steps(7), 1000);
        x.last(0);
        y.size(0);
        latest("the one", x, 3, 0, 1);
        latest("the other", y, 1, 0, 3);
        due("other cells", x.reached(0), 1);
        due("other cells", y.reached(0), 3);
    }

    public static void main(String[] args) {
        stepsOfGiven();
        stepsOfNumberLists();
        stepsOfMap();
        stepsOfBoth();
        stepsOfScan();
        stepsOfTake();
        stepsOfDrop();
        stepsOfKeep();
        stepsOfDuring();
        stepsOfAfter();
        stepsOfJoin();
        stepsOfRound();
        stepsOfBackAndSort();
        stepsOfOnceAndRuns();
        stepsOfAsks();
        opsEverywhere();
        numbersGoRound();
        condsEverywhere();
        whatFails();
        cell400();
        cell399IsTheEnd();
        fullRows();
        orders();
        sharing();
        stepsOfEachAsk();
        itemThatIsOut();
        listsOfAStuckItem();
        cellThatIsOut();
        latestAsk();
        reachedAndWorked();
        theRow();
        allCallsOfAnObject();
        objectsOfTheirOwn();
        System.out.println(wrong == 0 ? "all answers are as due" : wrong + " answers are not as due");
        if (wrong != 0) {
            System.exit(1);
        }
    }
}
