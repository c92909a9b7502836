import java.util.ArrayList;
import java.util.List;

/**
 * Runs of calls on a SpanMover and on a second shelf that is held quite otherwise: in Java's own
 * arrays of each kind, where System.arraycopy itself tells what can't be moved. Every answer of
 * the one must be the other's. Two such runs go on in turn. The runs are the same each time.
 */
public final class SpanMoverModelTest {
    private static final int RUNS = 3000;
    // Up to 3 calls of one step and 18 at the end come on top: the document promises 512.
    private static final int CALLS_OF_A_RUN = 490;
    private static final int MOST_TOLD = 20;

    private static int wrong = 0;

    public static void main(String[] args) {
        for (int run = 0; run < RUNS && wrong < MOST_TOLD; run += 2) {
            inTurn(new Run(run), new Run(run + 1));
        }
        System.out.println(wrong == 0 ? "both shelves answer alike" : wrong + " answers differ");
        if (wrong != 0) {
            System.exit(1);
        }
    }

    /** Each object takes a step of its run in turn, so nothing of one may be seen in the other. */
    private static void inTurn(Run one, Run other) {
        one.begin();
        other.begin();
        for (int step = 0; wrong < MOST_TOLD && !(one.isOver() && other.isOver()); step++) {
            one.step(step);
            other.step(step);
        }
        one.end();
        other.end();
    }

    private static class Mark {
        final int value;

        Mark(int value) {
            this.value = value;
        }
    }

    private static final class Seal extends Mark {
        Seal(int value) {
            super(value);
        }
    }

    private static final class Model {
        final Object[] places = new Object[400];
        final List<int[]> list = new ArrayList<>();
        int stock = 60000;
        int why = 0;
        int moved = 0;
        int ended = 0;
        int done = 0;
        int refused = 0;

        Object at(int place) {
            return place < 0 || place > 399 ? null : places[place];
        }

        int stand(Object what) {
            for (int place = 0; place < 400; place++) {
                if (places[place] == null) {
                    places[place] = what;
                    return place;
                }
            }
            return -1;
        }

        int taken() {
            int taken = 0;
            for (Object what : places) {
                taken += what == null ? 0 : 1;
            }
            return taken;
        }

        int row(int kind, int n) {
            if (kind < 0 || kind > 6) {
                return -1;
            }
            if (n > 2000 || taken() == 400 || stock < n + 1L) {
                return -2;
            }
            if (n < 0) {
                return -3;
            }
            stock -= n + 1;
            return stand(newRow(kind, n));
        }

        static Object newRow(int kind, int n) {
            return switch (kind) {
                case 0 -> new int[n];
                case 1 -> new long[n];
                case 2 -> new byte[n];
                case 3 -> new double[n];
                case 4 -> new int[n][];
                case 5 -> new Mark[n];
                default -> new Seal[n];
            };
        }

        int thing(Mark thing) {
            if (taken() == 400 || stock == 0) {
                return -2;
            }
            stock--;
            return stand(thing);
        }

        static int kind(Object what) {
            if (what == null) {
                return -1;
            }
            Class<?>[] kinds = {int[].class, long[].class, byte[].class, double[].class,
                int[][].class, Mark[].class, Seal[].class, Mark.class, Seal.class};
            for (int kind = 0; kind < kinds.length; kind++) {
                if (what.getClass() == kinds[kind]) {
                    return kind;
                }
            }
            throw new AssertionError();
        }

        static int size(Object what) {
            return what == null ? -1 : what instanceof Mark ? -2
                    : java.lang.reflect.Array.getLength(what);
        }

        int set(int place, int i, long v) {
            Object what = at(place);
            if (what == null) {
                return 1;
            }
            if (what instanceof Mark) {
                return 2;
            }
            if (what instanceof Object[]) {
                return 3;
            }
            try {
                switch (kind(what)) {
                    case 0 -> ((int[]) what)[i] = (int) v;
                    case 1 -> ((long[]) what)[i] = v;
                    case 2 -> ((byte[]) what)[i] = (byte) v;
                    default -> ((double[]) what)[i] = v;
                }
                return 0;
            } catch (ArrayIndexOutOfBoundsException e) {
                return 4;
            }
        }

        int setThing(int place, int i, int thing) {
            Object what = at(place);
            if (what == null || thing != -1 && at(thing) == null) {
                return 1;
            }
            if (what instanceof Mark) {
                return 2;
            }
            if (!(what instanceof Object[] row)) {
                return 3;
            }
            try {
                row[i] = at(thing);
                return 0;
            } catch (ArrayIndexOutOfBoundsException e) {
                return 4;
            } catch (ArrayStoreException e) {
                return 5;
            }
        }

        static long told(Object what, int i) {
            return switch (kind(what)) {
                case 0 -> ((int[]) what)[i];
                case 1 -> ((long[]) what)[i];
                case 2 -> ((byte[]) what)[i];
                case 3 -> (long) ((double[]) what)[i];
                case 4 -> size(((int[][]) what)[i]);
                default -> toldOfThing(((Mark[]) what)[i]);
            };
        }

        static long toldOfThing(Mark thing) {
            return thing == null ? -1
                    : ((long) kind(thing) << 32) + Integer.toUnsignedLong(thing.value);
        }

        long get(int place, int i) {
            Object what = at(place);
            why = what == null ? 1 : what instanceof Mark ? 2 : i < 0 || i >= size(what) ? 4 : 0;
            return why == 0 ? told(what, i) : 0;
        }

        long deep(int place, int i, int k) {
            Object what = at(place);
            why = 0;
            if (what == null) {
                why = 1;
            } else if (what instanceof Mark) {
                why = 2;
            } else if (!(what instanceof int[][] rows)) {
                why = 3;
            } else if (i < 0 || i >= rows.length) {
                why = 4;
            } else if (rows[i] == null) {
                why = 5;
            } else if (k < 0 || k >= rows[i].length) {
                why = 6;
            } else {
                return rows[i][k];
            }
            return 0;
        }

        int lift(int place, int i) {
            Object what = at(place);
            if (what == null) {
                return -1;
            }
            if (what instanceof Mark) {
                return -2;
            }
            if (!(what instanceof Object[] row)) {
                return -3;
            }
            if (i < 0 || i >= row.length) {
                return -4;
            }
            if (row[i] == null) {
                return -5;
            }
            return taken() == 400 ? -6 : stand(row[i]);
        }

        int move(int from, int i, int to, int j, int n) {
            Object a = at(from);
            Object b = at(to);
            moved = 0;
            try {
                System.arraycopy(a, i, b, j, n);
                ended = 0;
                moved = n;
            } catch (NullPointerException e) {
                ended = 1;
            } catch (IndexOutOfBoundsException e) {
                ended = 4;
            } catch (ArrayStoreException e) {
                ended = reasonOfStore(a, b);
                moved = ended == 5 ? firstUnfit((Object[]) a, i, b) : 0;
            }
            if (ended == 0) {
                done++;
            } else {
                refused++;
            }
            return ended;
        }

        static int reasonOfStore(Object a, Object b) {
            if (a instanceof Mark || b instanceof Mark) {
                return 2;
            }
            return a instanceof Object[] && b instanceof Object[] ? 5 : 3;
        }

        static int firstUnfit(Object[] a, int i, Object b) {
            int ahead = 0;
            while (a[i + ahead] == null
                    || b.getClass().getComponentType().isInstance(a[i + ahead])) {
                ahead++;
            }
            return ahead;
        }

        int plan(int... move) {
            if (list.size() == 64) {
                return -1;
            }
            list.add(move);
            return list.size();
        }

        int run() {
            int came = 0;
            for (int[] m : list) {
                if (move(m[0], m[1], m[2], m[3], m[4]) != 0) {
                    break;
                }
                came++;
            }
            list.clear();
            return came;
        }

        int clear(int place) {
            if (at(place) == null) {
                return 0;
            }
            places[place] = null;
            return 1;
        }

        int same(int a, int b) {
            return at(a) == null || at(b) == null ? -1 : at(a) == at(b) ? 1 : 0;
        }

        static long digest(Object what) {
            if (what == null) {
                return 0;
            }
            long d = kind(what) + 1;
            if (what instanceof Mark thing) {
                return 31 * d + thing.value;
            }
            for (int i = 0; i < size(what); i++) {
                boolean ofObjects = what instanceof Object[];
                boolean none = ofObjects && ((Object[]) what)[i] == null;
                long x = none ? 0 : what instanceof int[][] rows ? digest(rows[i]) : told(what, i);
                d = 31 * d + x;
            }
            return d;
        }

        int count(int what) {
            return switch (what) {
                case 0 -> taken();
                case 1 -> stock;
                case 2 -> list.size();
                case 3 -> done;
                case 4 -> refused;
                default -> -1;
            };
        }
    }

    /** One run; its number settles all its calls. */
    private static final class Run {
        private static final int[] ODD_INTS = {-1, -2, 399, 400, 2000, 2001,
            Integer.MIN_VALUE, Integer.MIN_VALUE + 1, Integer.MAX_VALUE, Integer.MAX_VALUE - 1};
        private static final long[] ODD_LONGS = {Long.MIN_VALUE, Long.MAX_VALUE, 128, -129, 255,
            2147483648L, -2147483649L, 9007199254740993L, 9007199254740995L, -9007199254740993L};

        private final int number;
        private final Model model = new Model();
        private final SpanMover mover = new SpanMover();
        private final int reach;
        private long state;
        private int calls = 0;

        Run(int number) {
            this.number = number;
            this.state = 1 + number * 2654435761L;
            this.reach = 3 + pick(14);
        }

        int pick(int below) {
            state = state * 6364136223846793005L + 1442695040888963407L;
            return (int) ((state >>> 33) % below);
        }

        int odd(int usual) {
            return pick(24) == 0 ? ODD_INTS[pick(ODD_INTS.length)] : usual;
        }

        int place() {
            return odd(pick(reach));
        }

        /** Mostly a place with what fits the call, so that not all but a few are refused. */
        int placeOf(int lowestKind, int highestKind) {
            int place = place();
            for (int k = 0; k < 12 && pick(12) != 0; k++) {
                int kind = Model.kind(model.at(place));
                if (kind >= lowestKind && kind <= highestKind) {
                    return place;
                }
                place = place();
            }
            return place;
        }

        int index(int place) {
            int size = Math.min(Math.max(Model.size(model.at(place)), 1), 8);
            return odd(pick(12) == 0 ? pick(10) - 1 : pick(size));
        }

        int amount(int place, int i) {
            int left = Math.min(Math.max(Model.size(model.at(place)) - i, 0), 8);
            return odd(pick(8) == 0 ? pick(8) - 1 : pick(left + 1));
        }

        long number() {
            return pick(3) == 0 ? ODD_LONGS[pick(ODD_LONGS.length)] : pick(2000) - 1000;
        }

        int size() {
            boolean big = number % 3 == 0 && pick(3) == 0;
            return odd(big ? 1500 + pick(502) : pick(9) - (pick(20) == 0 ? 1 : 0));
        }

        void begin() {
            if (number % 5 == 0) {
                fillPlaces();
            }
        }

        boolean isOver() {
            return calls >= CALLS_OF_A_RUN;
        }

        void step(int step) {
            if (!isOver()) {
                one(step);
            }
        }

        void end() {
            for (int place = 0; place < 18; place++) {
                due("digest at the end, " + place, mover.digest(place), Model.digest(model.at(place)));
            }
        }

        void fillPlaces() {
            for (int k = 0; k < 395; k++) {
                int v = pick(9);
                due("seal", mover.seal(v), model.thing(new Seal(v)));
            }
            for (int place = 0; place < reach; place++) {
                due("clear", mover.clear(place), model.clear(place));
            }
        }

        void due(String call, long got, long want) {
            calls++;
            if (got != want) {
                wrong++;
                System.out.println("run " + number + ": " + call
                        + " answered " + got + ", due is " + want);
            }
        }

        void one(int step) {
            boolean early = step < 3 * reach;
            int which = early ? pick(8) : 2 + pick(38);
            if (which < 4) {
                make();
            } else if (which < 12) {
                change();
            } else if (which < 24) {
                shift();
            } else {
                ask();
            }
        }

        void make() {
            int v = pick(4) == 0 ? odd(-pick(50)) : pick(50);
            switch (pick(7)) {
                case 0 -> due("mark", mover.mark(v), model.thing(new Mark(v)));
                case 1 -> due("seal", mover.seal(v), model.thing(new Seal(v)));
                default -> {
                    int kind = pick(12) == 0 ? odd(pick(9) - 1) : pick(3) == 0 ? pick(4) : 4 + pick(3);
                    int n = size();
                    kind = pick(5) == 0 ? 0 : kind;
                    due("row", mover.row(kind, n), model.row(kind, n));
                }
            }
        }

        void change() {
            switch (pick(8)) {
                case 0, 1, 2 -> {
                    int place = placeOf(0, 3);
                    int i = index(place);
                    long v = number();
                    due("set", mover.set(place, i, v), model.set(place, i, v));
                }
                case 7 -> clearOrLift();
                default -> {
                    int place = placeOf(4, 6);
                    int i = index(place);
                    int thing = pick(8) == 0 ? -1 : thingFor(place);
                    due("setThing", mover.setThing(place, i, thing), model.setThing(place, i, thing));
                }
            }
        }

        void clearOrLift() {
            if (pick(4) == 0) {
                int place = place();
                due("clear", mover.clear(place), model.clear(place));
            } else {
                int place = placeOf(4, 6);
                int i = index(place);
                due("lift", mover.lift(place, i), model.lift(place, i));
            }
        }

        int thingFor(int place) {
            return switch (Model.kind(model.at(place))) {
                case 4 -> placeOf(0, 0);
                case 5 -> placeOf(7, 8);
                default -> placeOf(8, 8);
            };
        }

        void shift() {
            int a = placeOf(pick(2) * 4, 6);
            int kind = Model.kind(model.at(a));
            int b = pick(6) == 0 ? a : kind >= 4 ? placeOf(4, 6) : placeOf(kind, kind);
            int i = index(a);
            int j = index(b);
            int n = pick(2) == 0 ? amount(a, i) : amount(b, j);
            // Some runs plan much and run seldom, so that the LIST gets full.
            boolean plansMuch = number % 7 == 0;
            switch (plansMuch && pick(4) != 0 ? 0 : pick(5)) {
                case 0, 1 -> due("plan", mover.plan(a, i, b, j, n), model.plan(a, i, b, j, n));
                case 2 -> {
                    if (!plansMuch || pick(12) == 0) {
                        due("run", mover.run(), model.run());
                    }
                }
                default -> due("move", mover.move(a, i, b, j, n), model.move(a, i, b, j, n));
            }
            due("moved", mover.moved(), model.moved);
            due("ended", mover.ended(), model.ended);
        }

        void ask() {
            int a = place();
            switch (pick(9)) {
                case 0 -> due("kindOf", mover.kindOf(a), Model.kind(model.at(a)));
                case 1 -> due("length", mover.length(a), Model.size(model.at(a)));
                case 2, 3 -> askGet(placeOf(pick(2) * 4, 6));
                case 4 -> askDeep(placeOf(4, 4));
                case 5 -> due("why", mover.why(), model.why);
                case 6 -> {
                    int b = place();
                    due("same", mover.same(a, b), model.same(a, b));
                }
                case 7 -> due("digest", mover.digest(a), Model.digest(model.at(a)));
                default -> {
                    int what = odd(pick(7) - 1);
                    due("count", mover.count(what), model.count(what));
                }
            }
        }

        void askGet(int place) {
            int i = index(place);
            due("get", mover.get(place, i), model.get(place, i));
        }

        void askDeep(int place) {
            int i = index(place);
            int k = odd(pick(5) - (pick(8) == 0 ? 1 : 0));
            due("deep", mover.deep(place, i, k), model.deep(place, i, k));
            due("why", mover.why(), model.why);
        }
    }
}
