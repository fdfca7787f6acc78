import java.lang.reflect.Constructor;
import java.lang.reflect.Field;
import java.lang.reflect.Method;
import java.lang.reflect.Modifier;
import java.util.ArrayList;
import java.util.Arrays;
import java.util.Collections;
import java.util.List;

/**
 * Every call that the document refuses, and the same call just inside: which exception it is, "the one
 * named first when several would do", "no room (24 lists; 100 items of THE ROW)", and "A call that
 * throws changes nothing". The public face, too.
 */
public final class RefusalTest {
    private static final int LOW = Integer.MIN_VALUE;
    private static final int HIGH = Integer.MAX_VALUE;
    private static final String NO_LIST = "java.lang.IndexOutOfBoundsException";
    private static final String BAD = "java.lang.IllegalArgumentException";
    private static final String FULL = "java.lang.UnsupportedOperationException";
    private static int wrong = 0;

    private static void due(String what, String got, String want) {
        if (!got.equals(want)) {
            wrong++;
            System.out.println(what + " answered " + got + ", due is " + want);
        }
    }

    // ---- the calls

    interface Call {
        long on(NeededLists x);
    }

    interface Form {
        long on(NeededLists x, int a, int b, int n);
    }

    /** A call with so many lists and, if it has bounds, a number that must be within these. */
    static final class Kind {
        final String name;
        final boolean makes;
        final int lists;
        final int[] bounds;
        final Form form;

        Kind(String name, boolean makes, int lists, int[] bounds, Form form) {
            this.name = name;
            this.makes = makes;
            this.lists = lists;
            this.bounds = bounds;
            this.form = form;
        }

        int[] good() {
            return bounds == null ? new int[] {0} : bounds;
        }

        int[] bad() {
            if (bounds == null) {
                return new int[0];
            }
            if (bounds[1] == HIGH) {
                return new int[] {bounds[0] - 1, LOW};
            }
            return new int[] {bounds[0] - 1, bounds[1] + 1, LOW, HIGH};
        }
    }

    private static final int[] OP = {0, 8};
    private static final int[] COND = {0, 3};
    private static final int[] LENGTH = {0, 400};
    private static final int[] SORT = {0, 4};
    private static final int[] PLACE = {0, HIGH};

    private static final Kind[] KINDS = {
        new Kind("given", true, 0, null, (x, a, b, n) -> x.given(false)),
        new Kind("given cut", true, 0, null, (x, a, b, n) -> x.given(true)),
        new Kind("count", true, 0, null, (x, a, b, n) -> x.count(1, 1)),
        new Kind("iterate", true, 0, OP, (x, a, b, n) -> x.iterate(n, 1, 1)),
        new Kind("map", true, 1, OP, (x, a, b, n) -> x.map(a, n, 1)),
        new Kind("both", true, 2, OP, (x, a, b, n) -> x.both(a, b, n)),
        new Kind("scan", true, 1, OP, (x, a, b, n) -> x.scan(a, n, 1)),
        new Kind("take", true, 1, LENGTH, (x, a, b, n) -> x.take(a, n)),
        new Kind("drop", true, 1, LENGTH, (x, a, b, n) -> x.drop(a, n)),
        new Kind("keep", true, 1, COND, (x, a, b, n) -> x.keep(a, n, 1)),
        new Kind("during", true, 1, COND, (x, a, b, n) -> x.during(a, n, 1)),
        new Kind("after", true, 1, COND, (x, a, b, n) -> x.after(a, n, 1)),
        new Kind("join", true, 2, null, (x, a, b, n) -> x.join(a, b)),
        new Kind("other", true, 1, SORT, (x, a, b, n) -> x.other(a, n)),
        new Kind("at", false, 1, PLACE, (x, a, b, n) -> x.at(a, n)),
        new Kind("size", false, 1, null, (x, a, b, n) -> x.size(a)),
        new Kind("fold", false, 1, OP, (x, a, b, n) -> x.fold(a, n, 1)),
        new Kind("find", false, 1, COND, (x, a, b, n) -> x.find(a, n, 1)),
        new Kind("last", false, 1, null, (x, a, b, n) -> x.last(a)),
        new Kind("reached", false, 1, null, (x, a, b, n) -> x.reached(a)),
        new Kind("worked", false, 1, null, (x, a, b, n) -> x.worked(a, 0) ? 1 : 0),
        new Kind("worked below 0", false, 1, null, (x, a, b, n) -> x.worked(a, -1) ? 1 : 0),
        new Kind("worked far away", false, 1, null, (x, a, b, n) -> x.worked(a, HIGH) ? 1 : 0)};

    // ---- objects to call

    /** So many lists and items of THE ROW, and behind an ask that told an ERROR and spent steps. */
    private static NeededLists object(int lists, int row) {
        NeededLists x = new NeededLists();
        for (int i = 0; i < lists; i++) {
            if (i == 0) {
                x.put(4);
                x.put(5);
                x.hole(1);
                x.given(false);
            } else {
                x.map(i - 1, 0, 1);
            }
        }
        for (int i = 0; i < row; i++) {
            if (i % 3 == 2) {
                x.hole(i % 2);
            } else {
                x.put(i);
            }
        }
        if (lists > 0) {
            x.steps(100);
            x.at(lists - 1, 0);
            x.at(0, 2);
        }
        return x;
    }

    /** Some lists, none, all but one, and all of them; THE ROW empty, with some items, and full. */
    private static final int[][] STATES = {{0, 0}, {0, 5}, {3, 0}, {3, 4}, {3, 100}, {23, 2}, {24, 0}, {24, 3}, {24, 100}};

    private static String tell(NeededLists x, Call call) {
        try {
            return Long.toString(call.on(x));
        } catch (RuntimeException e) {
            return e.getClass().getName();
        }
    }

    /** All that can be told of an object; it is of no use behind that. */
    private static String all(NeededLists x) {
        StringBuilder b = new StringBuilder();
        b.append(x.outcome()).append(' ').append(x.error()).append(' ').append(x.spent()).append(' ').append(x.lists());
        for (int a = 0; a < x.lists(); a++) {
            b.append(" / ").append(x.reached(a));
            for (int k = 0; k < 3; k++) {
                b.append(x.worked(a, k) ? " *" : " .");
            }
        }
        b.append(" / steps ").append(x.steps(777));
        int row = x.lists();
        if (row == 24) {
            // No given() here: if that emptied THE ROW when it is refused, it would hide it.
            return b.append(" / put ").append(tell(x, y -> y.put(1))).toString();
        }
        b.append(" / given ").append(tell(x, y -> y.given(false)));
        long size = x.size(row);
        for (int k = 0; k < size; k++) {
            b.append(' ').append(x.at(row, k)).append(' ').append(x.outcome());
        }
        return b.toString();
    }

    /** Answers that, and leaves the object as one that was never called so. */
    private static void refused(String what, int[] state, Call call, String want) {
        NeededLists x = object(state[0], state[1]);
        String where = what + " with " + state[0] + " lists, " + state[1] + " items: ";
        due(where, tell(x, call), want);
        due(where + "what it changed", all(x), all(object(state[0], state[1])));
    }

    // ---- lists: "there is no such list", "a number is not as it must be", "no room"

    private static int[] wrongLists(int lists) {
        return new int[] {-1, lists, lists + 1, 24, 25, HIGH, LOW};
    }

    private static void wrongList(Kind kind, int[] state) {
        for (int a : wrongLists(state[0])) {
            for (int n : kind.good()) {
                refused(kind.name + " of list " + a, state, x -> kind.form.on(x, a, 0, n), NO_LIST);
                refused(kind.name + " of list " + a + " twice", state, x -> kind.form.on(x, a, a, n), NO_LIST);
                if (kind.lists == 2) {
                    refused(kind.name + " with list " + a, state, x -> kind.form.on(x, 0, a, n), NO_LIST);
                }
            }
            for (int n : kind.bad()) {
                refused(kind.name + " of list " + a + ", number " + n, state, x -> kind.form.on(x, a, 0, n), NO_LIST);
                if (kind.lists == 2) {
                    refused(kind.name + " with list " + a + ", number " + n, state,
                        x -> kind.form.on(x, 0, a, n), NO_LIST);
                }
            }
        }
    }

    private static void wrongNumber(Kind kind, int[] state) {
        if (kind.lists > 0 && state[0] == 0) {
            return;
        }
        int last = Math.max(0, state[0] - 1);
        for (int n : kind.bad()) {
            refused(kind.name + " number " + n, state, x -> kind.form.on(x, 0, last, n), BAD);
            refused(kind.name + " number " + n, state, x -> kind.form.on(x, last, 0, n), BAD);
        }
    }

    private static void noRoom(Kind kind, int[] state) {
        if (kind.makes && state[0] == 24) {
            for (int n : kind.good()) {
                refused(kind.name + " without room", state, x -> kind.form.on(x, 0, 23, n), FULL);
                refused(kind.name + " without room", state, x -> kind.form.on(x, 23, 0, n), FULL);
            }
        }
    }

    /** Just inside: the first list and the last one, the least number and the greatest, the last room. */
    private static void allowed(Kind kind, int[] state) {
        if (kind.lists > 0 && state[0] == 0 || kind.makes && state[0] == 24) {
            return;
        }
        int last = Math.max(0, state[0] - 1);
        for (int n : kind.good()) {
            for (int a : new int[] {0, last}) {
                NeededLists x = object(state[0], state[1]);
                String what = kind.name + " of list " + a + ", number " + n + " with " + state[0] + " lists";
                String got = tell(x, y -> kind.form.on(y, a, last - a, n));
                if (kind.makes) {
                    due(what, got, Integer.toString(state[0]));
                } else {
                    due(what + " throws", Boolean.toString(got.startsWith("java")), "false");
                }
                due(what + ": lists", tell(x, y -> y.lists()), Integer.toString(state[0] + (kind.makes ? 1 : 0)));
                due(what + ": the list can be asked", tell(x, y -> y.reached(y.lists() - 1)).startsWith("java") + "", "false");
            }
        }
    }

    private static void kinds() {
        for (Kind kind : KINDS) {
            for (int[] state : STATES) {
                if (kind.lists > 0) {
                    wrongList(kind, state);
                }
                wrongNumber(kind, state);
                noRoom(kind, state);
                allowed(kind, state);
            }
        }
    }

    /** Each number within the bounds, not the least and the greatest alone. */
    private static void allNumbers() {
        for (Kind kind : KINDS) {
            if (kind.bounds == null || kind.bounds[1] > 8) {
                continue;
            }
            for (int n = kind.bounds[0] - 2; n <= kind.bounds[1] + 2; n++) {
                boolean good = n >= kind.bounds[0] && n <= kind.bounds[1];
                int number = n;
                String got = tell(object(3, 0), x -> kind.form.on(x, 0, 1, number));
                due(kind.name + " number " + n + " is refused", got.equals(BAD) + "", !good + "");
            }
        }
    }

    private static void twentyFourLists() {
        for (Kind kind : KINDS) {
            if (!kind.makes) {
                continue;
            }
            NeededLists x = new NeededLists();
            x.count(1, 1);
            for (int i = 1; i < 24; i++) {
                due(kind.name + " numbers its lists", tell(x, y -> kind.form.on(y, 0, 0, 0)), Integer.toString(i));
            }
            due(kind.name + " as a 25th", tell(x, y -> kind.form.on(y, 0, 0, 0)), FULL);
            due(kind.name + " as a 25th, again", tell(x, y -> kind.form.on(y, 23, 23, 0)), FULL);
            due(kind.name + ": lists", tell(x, y -> y.lists()), "24");
            due(kind.name + ": the last one can be asked", tell(x, y -> y.at(23, 0)).startsWith("java") + "", "false");
        }
    }

    // ---- THE ROW

    private static void theRow() {
        for (int[] state : STATES) {
            for (int kind : new int[] {-1, 2, LOW, HIGH}) {
                refused("hole " + kind, state, x -> x.hole(kind), BAD);
            }
            boolean full = state[1] == 100;
            for (int kind = 0; kind <= 1; kind++) {
                int k = kind;
                if (full) {
                    refused("hole " + kind, state, x -> x.hole(k), FULL);
                } else {
                    due("hole " + kind, tell(object(state[0], state[1]), x -> x.hole(k)), "" + (state[1] + 1));
                }
            }
            if (full) {
                refused("put", state, x -> x.put(1), FULL);
            } else {
                due("put", tell(object(state[0], state[1]), x -> x.put(1)), "" + (state[1] + 1));
            }
        }
        NeededLists x = new NeededLists();
        for (int i = 1; i <= 100; i++) {
            int item = i;
            due("item " + i, tell(x, y -> item % 2 == 0 ? y.put(item) : y.hole(item / 2 % 2)), "" + i);
        }
        due("put of a 101st", tell(x, y -> y.put(101)), FULL);
        due("hole as a 101st", tell(x, y -> y.hole(0)), FULL);
        due("given of a full ROW", tell(x, y -> y.given(false)), "0");
        due("put on the empty ROW", tell(x, y -> y.put(1)), "1");
        due("size", tell(x, y -> y.size(0)), "100");
        due("last", tell(x, y -> y.last(0)), "100");
        due("item 97", tell(x, y -> y.at(0, 97)), "98");
    }

    // ---- steps: "n is not 1 .. 5000"

    private static void steps() {
        for (int[] state : STATES) {
            for (int n : new int[] {0, -1, 5001, LOW, HIGH}) {
                refused("steps " + n, state, x -> x.steps(n), BAD);
            }
        }
        NeededLists x = new NeededLists();
        due("steps at first", tell(x, y -> y.steps(1)), "1000");
        due("steps", tell(x, y -> y.steps(5000)), "1");
        due("steps", tell(x, y -> y.steps(0)), BAD);
        due("steps", tell(x, y -> y.steps(4999)), "5000");
        due("steps", tell(x, y -> y.steps(5001)), BAD);
        due("steps", tell(x, y -> y.steps(2)), "4999");
        due("steps", tell(x, y -> y.steps(2)), "2");
        NeededLists z = new NeededLists();
        z.count(1, 1);
        z.steps(2);
        tell(z, y -> y.steps(0));
        tell(z, y -> y.at(0, 3));
        due("a refused number is not taken", tell(z, y -> y.spent()), "2");
    }

    // ---- the public face

    private static final String[] FACE = {
        "int put(long) FULL", "int hole(int) BAD FULL", "int given(boolean) FULL", "int count(long,long) FULL",
        "int iterate(int,long,long) BAD FULL", "int map(int,int,long) LIST BAD FULL",
        "int both(int,int,int) LIST BAD FULL", "int scan(int,int,long) LIST BAD FULL",
        "int take(int,int) LIST BAD FULL", "int drop(int,int) LIST BAD FULL", "int keep(int,int,long) LIST BAD FULL",
        "int during(int,int,long) LIST BAD FULL", "int after(int,int,long) LIST BAD FULL",
        "int join(int,int) LIST FULL", "int other(int,int) LIST BAD FULL", "int steps(int) BAD",
        "long at(int,int) LIST BAD", "long size(int) LIST", "long fold(int,int,long) LIST BAD",
        "long find(int,int,long) LIST BAD", "long last(int) LIST", "int outcome()", "int error()", "int spent()",
        "int reached(int) LIST", "boolean worked(int,int) LIST", "int lists()"};

    private static String told(Method m) {
        StringBuilder b = new StringBuilder();
        b.append(m.getReturnType().getSimpleName()).append(' ').append(m.getName()).append('(');
        for (Class<?> type : m.getParameterTypes()) {
            b.append(b.charAt(b.length() - 1) == '(' ? "" : ",").append(type.getSimpleName());
        }
        b.append(')');
        for (Class<?> type : m.getExceptionTypes()) {
            String name = type.getName();
            b.append(' ').append(name.equals(NO_LIST) ? "LIST" : name.equals(BAD) ? "BAD" : name.equals(FULL) ? "FULL" : name);
        }
        return b.toString();
    }

    private static void face() {
        Class<?> c = NeededLists.class;
        due("the class", Modifier.toString(c.getModifiers()), "public final");
        List<String> seen = new ArrayList<>();
        for (Method m : c.getDeclaredMethods()) {
            if (!m.isSynthetic() && !Modifier.isPrivate(m.getModifiers())) {
                due(m.getName(), Modifier.toString(m.getModifiers()), "public");
                seen.add(told(m));
            }
        }
        List<String> want = new ArrayList<>(List.of(FACE));
        Collections.sort(seen);
        Collections.sort(want);
        due("the face", seen.toString(), want.toString());
        Constructor<?>[] constructors = c.getDeclaredConstructors();
        due("the constructors", Arrays.toString(constructors), "[public NeededLists()]");
        for (Field f : c.getDeclaredFields()) {
            due("the field " + f.getName() + " is private", Modifier.isPrivate(f.getModifiers()) + "", "true");
        }
    }

    public static void main(String[] args) {
        face();
        kinds();
        allNumbers();
        twentyFourLists();
        theRow();
        steps();
        System.out.println(wrong == 0 ? "all answers are as due" : wrong + " answers are not as due");
        if (wrong != 0) {
            System.exit(1);
        }
    }
}
