import java.util.ArrayList;
import java.util.HashSet;
import java.util.List;
import java.util.Random;
import java.util.Set;
import java.util.function.Supplier;

/**
 * Random runs of calls, wrong ones among them, on NeededLists and on a plain model of the document
 * that is built in another way: thunks that are forced, failures and OUT as exceptions, recursion.
 * The seed is fixed, so that every run of this test is the same.
 */
public final class ModelTest {
    private static final long SEED = 20261116L;
    private static final int RUNS = 4000;
    // What an object answers behind these is free.
    private static final int CALLS_OF_AN_OBJECT = 512;
    private static int wrong = 0;

    // ---- the model

    static final class Out extends RuntimeException {
        private static final long serialVersionUID = 1L;
        Out() {
            super(null, null, false, false);
        }
    }

    /** code 0: UNDEFINED, else the ERROR. */
    static final class Fails extends RuntimeException {
        private static final long serialVersionUID = 1L;
        final int code;
        Fails(int code) {
            super(null, null, false, false);
            this.code = code;
        }
    }

    interface Recipe {
        Item of(int k);
    }

    static final class Model {
        final List<Lazy> all = new ArrayList<>();
        final List<Supplier<Long>> row = new ArrayList<>();
        int perAsk = 1000;
        int left;
        int used;
        int outcome;
        int error;

        void tick() {
            if (left == 0) {
                throw new Out();
            }
            left--;
            used++;
        }

        long ask(Supplier<Long> question) {
            left = perAsk;
            used = 0;
            outcome = 0;
            error = 0;
            try {
                return question.get();
            } catch (Out e) {
                outcome = 3;
            } catch (Fails e) {
                outcome = e.code == 0 ? 1 : 2;
                error = e.code;
            }
            return 0;
        }
    }

    static final class Item {
        final Model model;
        final Supplier<Long> recipe;
        boolean done;
        long number;
        Fails failure;

        Item(Model model, Supplier<Long> recipe) {
            this.model = model;
            this.recipe = recipe;
        }

        long force() {
            if (!done) {
                long n = 0;
                Fails f = null;
                try {
                    n = recipe.get();
                } catch (Fails e) {
                    f = e;
                }
                model.tick();
                number = n;
                failure = f;
                done = true;
            }
            if (failure != null) {
                throw failure;
            }
            return number;
        }
    }

    /** The recipe of a cell answers its item, or null for the END, or throws. */
    static final class Lazy {
        final Model model;
        final Recipe recipe;
        final List<Item> items = new ArrayList<>();
        boolean ended;
        Fails failure;

        Lazy(Model model, Recipe recipe) {
            this.model = model;
            this.recipe = recipe;
        }

        int reached() {
            return items.size() + (ended || failure != null ? 1 : 0);
        }

        Item cell(int k) {
            while (items.size() <= k) {
                if (failure != null) {
                    throw failure;
                }
                if (ended) {
                    return null;
                }
                if (items.size() == 400) {
                    throw new Out();
                }
                Item item = null;
                Fails f = null;
                try {
                    item = recipe.of(items.size());
                } catch (Fails e) {
                    f = e;
                }
                model.tick();
                if (f != null) {
                    failure = f;
                } else if (item == null) {
                    ended = true;
                } else {
                    items.add(item);
                }
            }
            return items.get(k);
        }

        List<Item> whole() {
            for (int k = 0; cell(k) != null; k++) {
                continue;
            }
            return items;
        }
    }

    static long op(int op, Supplier<Long> x, Supplier<Long> y) {
        if (op == 7) {
            return x.get();
        }
        if (op == 8) {
            return y.get();
        }
        long p = x.get();
        long q = y.get();
        if ((op == 3 || op == 4) && q == 0) {
            throw new Fails(1);
        }
        java.math.BigInteger bp = java.math.BigInteger.valueOf(p);
        java.math.BigInteger bq = java.math.BigInteger.valueOf(q);
        switch (op) {
            case 0: return bp.add(bq).longValue();
            case 1: return bp.subtract(bq).longValue();
            case 2: return bp.multiply(bq).longValue();
            case 3: return floor(bp, bq).longValue();
            case 4: return bp.subtract(bq.multiply(floor(bp, bq))).longValue();
            case 5: return bp.min(bq).longValue();
            default: return bp.max(bq).longValue();
        }
    }

    static java.math.BigInteger floor(java.math.BigInteger p, java.math.BigInteger q) {
        java.math.BigInteger[] parts = p.divideAndRemainder(q);
        boolean below = parts[1].signum() != 0 && parts[1].signum() != q.signum();
        return below ? parts[0].subtract(java.math.BigInteger.ONE) : parts[0];
    }

    static boolean cond(int cond, long x, long c) {
        switch (cond) {
            case 0: return x < c;
            case 1: return x == c;
            case 2: return x > c;
            default: return c == 0 ? x == 0 : x % c == 0;
        }
    }

    static Lazy given(Model m, List<Supplier<Long>> row, boolean cut) {
        List<Supplier<Long>> told = new ArrayList<>(row);
        return new Lazy(m, k -> {
            if (k < told.size()) {
                return new Item(m, told.get(k));
            }
            if (cut) {
                throw new Fails(0);
            }
            return null;
        });
    }

    static Lazy count(Model m, long b, long s) {
        return new Lazy(m, k -> new Item(m, () -> b + k * s));
    }

    static Lazy iterate(Model m, int op, long c, long x) {
        Lazy[] me = new Lazy[1];
        me[0] = new Lazy(m, k -> new Item(m, () ->
            k == 0 ? x : op(op, () -> me[0].items.get(k - 1).force(), () -> c)));
        return me[0];
    }

    static Lazy map(Model m, Lazy a, int op, long c) {
        return new Lazy(m, k -> {
            Item of = a.cell(k);
            return of == null ? null : new Item(m, () -> op(op, of::force, () -> c));
        });
    }

    static Lazy both(Model m, Lazy a, Lazy b, int op) {
        return new Lazy(m, k -> {
            Item x = a.cell(k);
            Item y = x == null ? null : b.cell(k);
            return y == null ? null : new Item(m, () -> op(op, x::force, y::force));
        });
    }

    static Lazy scan(Model m, Lazy a, int op, long b) {
        Lazy[] me = new Lazy[1];
        me[0] = new Lazy(m, k -> {
            if (k == 0) {
                return new Item(m, () -> b);
            }
            Item y = a.cell(k - 1);
            return y == null ? null
                : new Item(m, () -> op(op, () -> me[0].items.get(k - 1).force(), y::force));
        });
        return me[0];
    }

    static Lazy keep(Model m, Lazy a, int cond, long c) {
        List<Integer> places = new ArrayList<>();
        Lazy[] me = new Lazy[1];
        me[0] = new Lazy(m, k -> {
            // a place that was found, but had no step left, is found anew
            while (places.size() > k) {
                places.remove(places.size() - 1);
            }
            int p = k == 0 ? 0 : places.get(k - 1) + 1;
            for (;; p++) {
                Item item = a.cell(p);
                if (item == null) {
                    return null;
                }
                long x = item.force();
                boolean good = cond(cond, x, c);
                if (cond == -1) {
                    good = true;
                    for (Item mine : me[0].items) {
                        good &= mine.number != x;
                    }
                }
                if (good) {
                    places.add(p);
                    return item;
                }
            }
        });
        return me[0];
    }

    static Lazy during(Model m, Lazy a, int cond, long c) {
        return new Lazy(m, k -> {
            Item item = a.cell(k);
            return item != null && cond(cond, item.force(), c) ? item : null;
        });
    }

    static Lazy after(Model m, Lazy a, int cond, long c) {
        int[] first = new int[1];
        return new Lazy(m, k -> {
            if (k == 0) {
                int p = 0;
                while (a.cell(p) != null && cond(cond, a.cell(p).force(), c)) {
                    p++;
                }
                first[0] = p;
            }
            return a.cell(first[0] + k);
        });
    }

    static Lazy join(Model m, Lazy a, Lazy b) {
        return new Lazy(m, k -> {
            Item item = a.cell(k);
            return item != null ? item : b.cell(k - a.items.size());
        });
    }

    static Lazy round(Model m, Lazy a) {
        return new Lazy(m, k -> {
            Item item = a.cell(k);
            if (item == null && a.items.isEmpty()) {
                throw new Fails(2);
            }
            return item != null ? item : a.items.get(k % a.items.size());
        });
    }

    static Lazy back(Model m, Lazy a) {
        return new Lazy(m, k -> {
            List<Item> whole = a.whole();
            return k < whole.size() ? whole.get(whole.size() - 1 - k) : null;
        });
    }

    static Lazy sort(Model m, Lazy a) {
        return new Lazy(m, k -> {
            List<Item> whole = new ArrayList<>(a.whole());
            for (Item item : whole) {
                item.force();
            }
            whole.sort((x, y) -> Long.compare(x.number, y.number));
            return k < whole.size() ? whole.get(k) : null;
        });
    }

    /** Where the run from start on ends: a place, less 1000 if the END is there. */
    static int runEnd(Lazy a, int start) {
        long number = a.items.get(start).force();
        for (int p = start + 1;; p++) {
            Item item = a.cell(p);
            if (item == null) {
                return p - 1000;
            }
            if (item.force() != number) {
                return p;
            }
        }
    }

    static Lazy runs(Model m, Lazy a) {
        int[] starts = new int[401];
        return new Lazy(m, k -> {
            if (k == 0) {
                if (a.cell(0) == null) {
                    return null;
                }
            } else {
                starts[k] = runEnd(a, starts[k - 1]);
                if (starts[k] < 0) {
                    return null;
                }
            }
            return new Item(m, () -> (long) Math.floorMod(runEnd(a, starts[k]), 1000) - starts[k]);
        });
    }

    // ---- the calls, by name, on the model

    static final String[] CALLS = {"put", "hole", "given", "count", "iterate", "map", "both", "scan", "take",
        "drop", "keep", "during", "after", "join", "other", "steps", "at", "size", "fold", "find", "last",
        "reached", "worked"};

    static final class Call {
        String name;
        int i;
        int j;
        int n;
        long c;
        long d;

        @Override
        public String toString() {
            return name + " i=" + i + " j=" + j + " n=" + n + " c=" + c + " d=" + d;
        }
    }

    static Lazy list(Model m, int a) {
        if (a < 0 || a >= m.all.size()) {
            throw new IndexOutOfBoundsException();
        }
        return m.all.get(a);
    }

    static void within(int n, int low, int high) {
        if (n < low || n > high) {
            throw new IllegalArgumentException();
        }
    }

    static long add(Model m, Supplier<Lazy> maker) {
        if (m.all.size() == 24) {
            throw new UnsupportedOperationException();
        }
        m.all.add(maker.get());
        return m.all.size() - 1;
    }

    static long addRow(Model m, Supplier<Long> item) {
        if (m.row.size() == 100) {
            throw new UnsupportedOperationException();
        }
        m.row.add(item);
        return m.row.size();
    }

    static long onModel(Model m, Call q) {
        switch (q.name) {
            case "put": return addRow(m, () -> q.c);
            case "hole":
                within(q.j, 0, 1);
                return addRow(m, () -> {
                    throw new Fails(q.j == 0 ? 0 : 4);
                });
            case "given": {
                long number = add(m, () -> given(m, m.row, q.j == 1));
                m.row.clear();
                return number;
            }
            case "count": return add(m, () -> count(m, q.c, q.d));
            case "iterate":
                within(q.j, 0, 8);
                return add(m, () -> iterate(m, q.j, q.c, q.d));
            default: return onModelOfLists(m, q);
        }
    }

    static long onModelOfLists(Model m, Call q) {
        if (q.name.equals("steps")) {
            within(q.n, 1, 5000);
            int before = m.perAsk;
            m.perAsk = q.n;
            return before;
        }
        Lazy a = list(m, q.i);
        switch (q.name) {
            case "map":
                within(q.j, 0, 8);
                return add(m, () -> map(m, a, q.j, q.c));
            case "both": {
                Lazy b = list(m, q.n);
                within(q.j, 0, 8);
                return add(m, () -> both(m, a, b, q.j));
            }
            case "scan":
                within(q.j, 0, 8);
                return add(m, () -> scan(m, a, q.j, q.c));
            case "take":
                within(q.n, 0, 400);
                return add(m, () -> new Lazy(m, k -> k == q.n ? null : a.cell(k)));
            case "drop":
                within(q.n, 0, 400);
                return add(m, () -> new Lazy(m, k -> a.cell(k + q.n)));
            case "keep":
                within(q.j, 0, 3);
                return add(m, () -> keep(m, a, q.j, q.c));
            case "during":
                within(q.j, 0, 3);
                return add(m, () -> during(m, a, q.j, q.c));
            case "after":
                within(q.j, 0, 3);
                return add(m, () -> after(m, a, q.j, q.c));
            case "join": {
                Lazy b = list(m, q.n);
                return add(m, () -> join(m, a, b));
            }
            case "other":
                within(q.j, 0, 4);
                return add(m, () -> q.j == 0 ? round(m, a) : q.j == 1 ? back(m, a) : q.j == 2 ? sort(m, a)
                    : q.j == 3 ? keep(m, a, -1, 0) : runs(m, a));
            default: return askModel(m, a, q);
        }
    }

    static long askModel(Model m, Lazy a, Call q) {
        switch (q.name) {
            case "at":
                within(q.n, 0, Integer.MAX_VALUE);
                return m.ask(() -> {
                    Item item = a.cell(q.n);
                    if (item == null) {
                        throw new Fails(3);
                    }
                    return item.force();
                });
            case "size": return m.ask(() -> (long) a.whole().size());
            case "fold":
                within(q.j, 0, 8);
                return m.ask(() -> foldModel(a, q.j, q.c));
            case "find":
                within(q.j, 0, 3);
                return m.ask(() -> {
                    for (int k = 0;; k++) {
                        Item item = a.cell(k);
                        if (item == null) {
                            return -1L;
                        }
                        if (cond(q.j, item.force(), q.c)) {
                            return (long) k;
                        }
                    }
                });
            case "last":
                return m.ask(() -> {
                    List<Item> whole = a.whole();
                    if (whole.isEmpty()) {
                        throw new Fails(2);
                    }
                    return whole.get(whole.size() - 1).force();
                });
            case "reached": return a.reached();
            default: return q.n >= 0 && q.n < a.items.size() && a.items.get(q.n).done ? 1 : 0;
        }
    }

    static long foldModel(Lazy a, int op, long b) {
        Supplier<Long> soFar = () -> b;
        for (int k = 0;; k++) {
            Item item = a.cell(k);
            if (item == null) {
                return soFar.get();
            }
            if (op == 8) {
                try {
                    item.force();
                } catch (Fails e) {
                    // worked, but not needed, unless it is the last one
                }
                soFar = item::force;
            } else {
                long now = op(op, soFar, item::force);
                soFar = () -> now;
            }
        }
    }

    // ---- the same calls on the class

    static long onClass(NeededLists x, Call q) {
        switch (q.name) {
            case "put": return x.put(q.c);
            case "hole": return x.hole(q.j);
            case "given": return x.given(q.j == 1);
            case "count": return x.count(q.c, q.d);
            case "iterate": return x.iterate(q.j, q.c, q.d);
            case "map": return x.map(q.i, q.j, q.c);
            case "both": return x.both(q.i, q.n, q.j);
            case "scan": return x.scan(q.i, q.j, q.c);
            case "take": return x.take(q.i, q.n);
            case "drop": return x.drop(q.i, q.n);
            case "keep": return x.keep(q.i, q.j, q.c);
            case "during": return x.during(q.i, q.j, q.c);
            case "after": return x.after(q.i, q.j, q.c);
            case "join": return x.join(q.i, q.n);
            case "other": return x.other(q.i, q.j);
            case "steps": return x.steps(q.n);
            case "at": return x.at(q.i, q.n);
            case "size": return x.size(q.i);
            case "fold": return x.fold(q.i, q.j, q.c);
            case "find": return x.find(q.i, q.j, q.c);
            case "last": return x.last(q.i);
            case "reached": return x.reached(q.i);
            default: return x.worked(q.i, q.n) ? 1 : 0;
        }
    }

    // ---- runs

    static final long[] NUMBERS = {0, 0, 1, 1, 2, 2, 3, 3, 4, 5, 7, -1, -2, -3, 10, 20, 100,
        Long.MAX_VALUE, Long.MIN_VALUE, Long.MIN_VALUE + 1};

    static Call randomCall(Random r, int lists, int makingShare) {
        Call q = new Call();
        q.name = CALLS[r.nextInt(100) < makingShare ? r.nextInt(15) : 15 + r.nextInt(8)];
        if (makingShare > 50 && r.nextInt(3) == 0) {
            q.name = "put";
        }
        q.i = lists == 0 || r.nextInt(60) == 0 ? r.nextInt(30) - 2 : lists - 1 - r.nextInt(1 + r.nextInt(lists));
        int most = q.name.equals("hole") ? 2 : q.name.equals("other") || q.name.equals("given") ? 5
            : "keep during after find".contains(q.name) ? 4 : 9;
        q.j = r.nextInt(60) == 0 ? r.nextInt(14) - 3 : r.nextInt(most);
        q.c = NUMBERS[r.nextInt(NUMBERS.length)];
        q.d = NUMBERS[r.nextInt(NUMBERS.length)];
        if (q.name.equals("both") || q.name.equals("join")) {
            q.n = lists == 0 || r.nextInt(60) == 0 ? r.nextInt(30) - 2 : r.nextInt(lists);
        } else if (q.name.equals("steps")) {
            q.n = r.nextInt(4) == 0 ? r.nextInt(5100) - 20 : r.nextInt(3) == 0 ? 5000 : 1 + r.nextInt(60);
        } else {
            int pick = r.nextInt(40);
            q.n = pick == 0 ? 398 + r.nextInt(5) : pick == 1 ? Integer.MAX_VALUE : pick == 2 ? -1
                : pick == 3 ? Integer.MIN_VALUE : pick < 8 ? r.nextInt(420) : r.nextInt(9);
        }
        return q;
    }

    static String tellClass(NeededLists x, Call q) {
        try {
            return Long.toString(onClass(x, q));
        } catch (RuntimeException e) {
            return "throws " + e.getClass().getName();
        }
    }

    static String tellModel(Model m, Call q) {
        try {
            return Long.toString(onModel(m, q));
        } catch (RuntimeException e) {
            return "throws " + e.getClass().getName();
        }
    }

    /** One look at the state, without any ask: how far a list is, or an item of it. */
    static Call randomLook(Random r, Model m) {
        Call q = new Call();
        q.i = r.nextInt(m.all.size());
        int reached = m.all.get(q.i).reached();
        q.name = r.nextInt(3) == 0 ? "reached" : "worked";
        q.n = r.nextInt(reached + 2);
        return q;
    }

    static boolean isAsk(Call q) {
        return "at size fold find last".contains(q.name);
    }

    static boolean sameLatest(NeededLists x, Model m) {
        return x.outcome() == m.outcome && x.error() == m.error && x.spent() == m.used;
    }

    static void run(int number, Random r, Set<String> met) {
        NeededLists x = new NeededLists();
        Model m = new Model();
        List<Call> calls = new ArrayList<>();
        int made = 0;
        int share = 20 + r.nextInt(60);
        int looks = 0;
        // A round makes four calls at most, and lists() is asked behind them all.
        while (made + 6 <= CALLS_OF_AN_OBJECT) {
            boolean look = looks > 0 && !m.all.isEmpty();
            Call q = look ? randomLook(r, m) : randomCall(r, m.all.size(), share);
            looks = look ? looks - 1 : isAsk(q) ? r.nextInt(8) : 0;
            calls.add(q);
            String want = tellModel(m, q);
            String got = tellClass(x, q);
            made++;
            met.add(q.name + " " + (want.startsWith("throws") ? want : "outcome " + m.outcome + " " + m.error));
            boolean same = want.equals(got);
            if (same && !look) {
                same = sameLatest(x, m);
                made += 3;
            }
            if (!same) {
                wrong++;
                System.out.println("run " + number + ": " + q + " answered " + got + ", due is " + want);
                System.out.println("  outcome, error, spent due: " + m.outcome + ", " + m.error + ", " + m.used);
                for (Call c : calls) {
                    System.out.println("    " + c);
                }
                return;
            }
        }
        if (x.lists() != m.all.size()) {
            wrong++;
            System.out.println("run " + number + ": lists() answered " + x.lists() + ", due is " + m.all.size());
        }
    }

    static void allRuns() {
        Set<String> met = new HashSet<>();
        Random r = new Random(SEED);
        for (int i = 0; i < RUNS && wrong < 3; i++) {
            run(i, r, met);
        }
        // A test that never met what it looks for would tell nothing.
        for (String ask : new String[] {"at", "size", "fold", "find", "last"}) {
            for (String end : new String[] {"0 0", "1 0", "2 1", "2 2", "2 4", "3 0"}) {
                demand(met, ask + " outcome " + end);
            }
        }
        demand(met, "at outcome 2 3");
    }

    static void demand(Set<String> met, String what) {
        if (wrong == 0 && !met.contains(what)) {
            wrong++;
            System.out.println("no run met " + what);
        }
    }

    public static void main(String[] args) throws InterruptedException {
        // The model goes as deep as the lists are long.
        Thread deep = new Thread(null, ModelTest::allRuns, "runs", 1L << 30);
        int[] broken = {0};
        deep.setUncaughtExceptionHandler((t, e) -> {
            broken[0] = 1;
            e.printStackTrace();
        });
        deep.start();
        deep.join();
        System.out.println(wrong == 0 && broken[0] == 0 ? "all answers are as the model's" : "not as the model's");
        if (wrong != 0 || broken[0] != 0) {
            System.exit(1);
        }
    }
}
