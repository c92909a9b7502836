import java.util.ArrayList;
import java.util.List;

/**
 * "What is refused changes nothing, but as told": of two shelves made alike, one takes a call that
 * is refused and the other doesn't; then both must answer alike to all that can be asked of them.
 */
public final class SpanMoverRefusalTest {
    private static final int MIN = Integer.MIN_VALUE;
    private static final int MAX = Integer.MAX_VALUE;
    private static final int[] NO_PLACES = {-1, -2, 400, 401, MIN, MAX};
    private static final int[] NO_ELEMENTS = {-1, 3, 4, MIN, MAX};

    private static int wrong = 0;
    private static int calls = 0;

    public static void main(String[] args) {
        for (Shelf shelf : Shelf.values()) {
            refusedRowsAndThings(shelf);
            refusedSets(shelf);
            refusedReads(shelf);
            refusedLifts(shelf);
            refusedMoves(shelf);
            refusedByReason5(shelf);
            refusedPlansAndClears(shelf);
        }
        System.out.println(wrong == 0 ? calls + " refused calls change nothing, but as told"
                : wrong + " answers are not as due");
        if (wrong != 0) {
            System.exit(1);
        }
    }

    private interface Call {
        long on(SpanMover x);
    }

    /** The states in which calls are refused. */
    private enum Shelf {
        ORDINARY, NO_PLACE_EMPTY, NO_STOCK, LIST_FULL, AFTER_A_REFUSED_MOVE;

        /**
         * Places 0 to 6 hold rows of KIND 0 to 6 and of LENGTH 3, 7 a Mark, 8 a Seal, 9 a row of
         * Marks with one that is no Seal behind two Seals. 10 is EMPTY unless all places are taken.
         */
        SpanMover made() {
            SpanMover x = new SpanMover();
            for (int kind = 0; kind <= 6; kind++) {
                x.row(kind, 3);
            }
            x.mark(-70);
            x.seal(80);
            x.row(5, 3);
            for (int i = 0; i < 3; i++) {
                for (int place = 0; place <= 3; place++) {
                    x.set(place, i, 10 * place + i + 1);
                }
                x.setThing(9, i, i == 2 ? 7 : 8);
            }
            x.setThing(4, 0, 0);
            x.setThing(5, 1, 7);
            x.setThing(6, 1, 8);
            x.plan(0, 0, 0, 1, 2);
            x.move(1, 0, 1, 0, 1);
            finish(x);
            return x;
        }

        private void finish(SpanMover x) {
            switch (this) {
                case NO_PLACE_EMPTY -> {
                    for (int place = 10; place < 400; place++) {
                        x.seal(1);
                    }
                }
                case NO_STOCK -> takeAllStock(x);
                case LIST_FULL -> {
                    for (int k = 1; k < 64; k++) {
                        x.plan(1, 0, 1, 1, 2);
                    }
                }
                case AFTER_A_REFUSED_MOVE -> {
                    x.move(9, 0, 6, 0, 3);
                    x.get(0, 9);
                }
                default -> { }
            }
        }

        private static void takeAllStock(SpanMover x) {
            while (x.count(1) > 2001) {
                x.clear(x.row(0, 2000));
            }
            x.clear(x.row(0, x.count(1) - 1));
        }
    }

    private static void due(String what, long got, long want) {
        if (got != want) {
            wrong++;
            System.out.println(what + " answered " + got + ", due is " + want);
        }
    }

    private static String told(String name, int... arguments) {
        StringBuilder text = new StringBuilder(name).append('(');
        for (int k = 0; k < arguments.length; k++) {
            text.append(k == 0 ? "" : ", ").append(arguments[k]);
        }
        return text.append(')').toString();
    }

    private static void dueUnchanged(Shelf shelf, String name, Call call, long answer) {
        calls++;
        SpanMover x = shelf.made();
        due(shelf + ": " + name, call.on(x), answer);
        dueAlike(shelf + " after " + name, x, shelf.made());
    }

    /** What was told of the latest MOVE or read is looked at first: later questions change it. */
    private static void dueAlike(String when, SpanMover x, SpanMover y) {
        due(when + ", why", x.why(), y.why());
        due(when + ", moved", x.moved(), y.moved());
        due(when + ", ended", x.ended(), y.ended());
        dueAlikeButTheLatest(when, x, y);
    }

    private static void dueAlikeButTheLatest(String when, SpanMover x, SpanMover y) {
        List<Long> of = answers(x);
        List<Long> wanted = answers(y);
        for (int k = 0; k < wanted.size(); k++) {
            due(when + ", question " + k, of.get(k), wanted.get(k));
        }
    }

    private static List<Long> answers(SpanMover x) {
        List<Long> all = new ArrayList<>();
        for (int what = 0; what <= 4; what++) {
            all.add((long) x.count(what));
        }
        for (int place = 0; place <= 11; place++) {
            all.add((long) x.kindOf(place));
            all.add(x.digest(place));
        }
        all.add((long) x.kindOf(399));
        for (int place = 4; place <= 6; place++) {
            for (int i = 0; i < 3; i++) {
                all.add(x.get(place, i));
            }
        }
        all.add((long) x.run());
        all.add((long) x.ended());
        all.add((long) x.moved());
        all.add(x.digest(0));
        all.add(x.digest(1));
        all.add((long) x.lift(4, 0));
        all.add((long) x.same(10, 0));
        all.add((long) x.row(0, 0));
        return all;
    }

    private static void refusedRowsAndThings(Shelf shelf) {
        boolean noPlace = shelf == Shelf.NO_PLACE_EMPTY;
        boolean noStock = shelf == Shelf.NO_STOCK;
        for (int kind : new int[] {-1, 7, 8, MIN, MAX}) {
            dueUnchanged(shelf, told("row", kind, 1), x -> x.row(kind, 1), -1);
        }
        for (int kind = 0; kind <= 6; kind++) {
            int k = kind;
            dueUnchanged(shelf, told("row", k, 2001), x -> x.row(k, 2001), -2);
            dueUnchanged(shelf, told("row", k, MAX), x -> x.row(k, MAX), -2);
            dueUnchanged(shelf, told("row", k, -1), x -> x.row(k, -1), noPlace ? -2 : -3);
            dueUnchanged(shelf, told("row", k, MIN), x -> x.row(k, MIN), noPlace ? -2 : -3);
            if (noPlace || noStock) {
                dueUnchanged(shelf, told("row", k, 0), x -> x.row(k, 0), -2);
            }
        }
        if (noPlace || noStock) {
            dueUnchanged(shelf, "mark", x -> x.mark(5), -2);
            dueUnchanged(shelf, "seal", x -> x.seal(5), -2);
        }
    }

    private static void refusedSets(Shelf shelf) {
        for (int p : NO_PLACES) {
            dueUnchanged(shelf, told("set", p, 0), x -> x.set(p, 0, 99), 1);
            dueUnchanged(shelf, told("setThing", p, 0, 8), x -> x.setThing(p, 0, 8), 1);
            if (p != -1) {
                dueUnchanged(shelf, told("setThing", 5, 1, p), x -> x.setThing(5, 1, p), 1);
            }
        }
        for (int place = 4; place <= 9; place++) {
            int p = place;
            boolean isThing = p == 7 || p == 8;
            dueUnchanged(shelf, told("set", p, 0), x -> x.set(p, 0, 99), isThing ? 2 : 3);
        }
        for (int place : new int[] {0, 1, 2, 3, 7, 8}) {
            int reason = place >= 7 ? 2 : 3;
            dueUnchanged(shelf, told("setThing", place, 0, 0), x -> x.setThing(place, 0, 0), reason);
        }
        for (int i : NO_ELEMENTS) {
            dueUnchanged(shelf, told("set", 0, i), x -> x.set(0, i, 99), 4);
            dueUnchanged(shelf, told("setThing", 6, i, 8), x -> x.setThing(6, i, 8), 4);
        }
        for (int thing = 0; thing <= 9; thing++) {
            int t = thing;
            if (t != 0) {
                dueUnchanged(shelf, told("setThing", 4, 0, t), x -> x.setThing(4, 0, t), 5);
            }
            if (t != 7 && t != 8) {
                dueUnchanged(shelf, told("setThing", 5, 1, t), x -> x.setThing(5, 1, t), 5);
            }
            if (t != 8) {
                dueUnchanged(shelf, told("setThing", 6, 1, t), x -> x.setThing(6, 1, t), 5);
            }
        }
    }

    /** A refused read changes why alone, so all but that is looked at. */
    private static void dueReadRefused(Shelf shelf, String name, Call read, int reason) {
        calls++;
        SpanMover x = shelf.made();
        due(shelf + ": " + name, read.on(x), 0);
        due(shelf + ": why of " + name, x.why(), reason);
        SpanMover y = shelf.made();
        due(shelf + ": moved after " + name, x.moved(), y.moved());
        due(shelf + ": ended after " + name, x.ended(), y.ended());
        dueAlikeButTheLatest(shelf + " after " + name, x, y);
    }

    private static void refusedReads(Shelf shelf) {
        for (int p : NO_PLACES) {
            dueReadRefused(shelf, told("get", p, 0), x -> x.get(p, 0), 1);
            dueReadRefused(shelf, told("deep", p, 0, 0), x -> x.deep(p, 0, 0), 1);
        }
        for (int i : NO_ELEMENTS) {
            for (int place = 0; place <= 6; place++) {
                int p = place;
                dueReadRefused(shelf, told("get", p, i), x -> x.get(p, i), 4);
            }
            dueReadRefused(shelf, told("deep", 4, i, 0), x -> x.deep(4, i, 0), 4);
            dueReadRefused(shelf, told("deep", 4, 1, i), x -> x.deep(4, 1, i), 5);
            dueReadRefused(shelf, told("deep", 4, 0, i), x -> x.deep(4, 0, i), 6);
        }
        for (int place : new int[] {0, 1, 2, 3, 5, 6, 9}) {
            dueReadRefused(shelf, told("deep", place, 0, 0), x -> x.deep(place, 0, 0), 3);
        }
        for (int thing = 7; thing <= 8; thing++) {
            int t = thing;
            dueReadRefused(shelf, told("get", t, 0), x -> x.get(t, 0), 2);
            dueReadRefused(shelf, told("deep", t, 0, 0), x -> x.deep(t, 0, 0), 2);
        }
    }

    private static void refusedLifts(Shelf shelf) {
        for (int p : NO_PLACES) {
            dueUnchanged(shelf, told("lift", p, 0), x -> x.lift(p, 0), -1);
        }
        dueUnchanged(shelf, told("lift", 7, 0), x -> x.lift(7, 0), -2);
        dueUnchanged(shelf, told("lift", 8, 0), x -> x.lift(8, 0), -2);
        for (int place = 0; place <= 3; place++) {
            int p = place;
            dueUnchanged(shelf, told("lift", p, 0), x -> x.lift(p, 0), -3);
        }
        for (int place = 4; place <= 6; place++) {
            int p = place;
            for (int i : NO_ELEMENTS) {
                dueUnchanged(shelf, told("lift", p, i), x -> x.lift(p, i), -4);
            }
            dueUnchanged(shelf, told("lift", p, 2), x -> x.lift(p, 2), -5);
        }
        if (shelf == Shelf.NO_PLACE_EMPTY) {
            dueUnchanged(shelf, told("lift", 4, 0), x -> x.lift(4, 0), -6);
            dueUnchanged(shelf, told("lift", 5, 1), x -> x.lift(5, 1), -6);
        }
    }

    /** It changes what is told of the latest MOVE; the twin takes a MOVE that is refused by 1. */
    private static void dueMoveRefused(Shelf shelf, int[] m, int reason) {
        calls++;
        String name = told("move", m);
        SpanMover x = shelf.made();
        due(shelf + ": " + name, x.move(m[0], m[1], m[2], m[3], m[4]), reason);
        due(shelf + ": ended of " + name, x.ended(), reason);
        due(shelf + ": moved of " + name, x.moved(), 0);
        SpanMover y = shelf.made();
        y.move(-1, 0, -1, 0, 0);
        due(shelf + ": why after " + name, x.why(), y.why());
        dueAlikeButTheLatest(shelf + " after " + name, x, y);
    }

    private static void refusedMoves(Shelf shelf) {
        for (int p : NO_PLACES) {
            dueMoveRefused(shelf, new int[] {p, 0, 0, 0, 1}, 1);
            dueMoveRefused(shelf, new int[] {0, 0, p, 0, 1}, 1);
        }
        for (int a = 0; a <= 9; a++) {
            for (int b = 0; b <= 9; b++) {
                boolean aThing = a == 7 || a == 8 || b == 7 || b == 8;
                boolean passes = a == b || a >= 4 && b >= 4;
                if (aThing || !passes) {
                    dueMoveRefused(shelf, new int[] {a, 0, b, 1, 2}, aThing ? 2 : 3);
                }
            }
        }
        int[][] spans = {{-1, 0, 1}, {0, -1, 1}, {0, 1, -1}, {0, 1, 3}, {1, 0, 3}, {0, 0, 4},
            {4, 0, 0}, {0, 4, 0}, {MIN, 0, 1}, {0, MIN, 1}, {0, 1, MIN}, {MAX, 0, 1}, {0, MAX, 1},
            {1, 0, MAX}, {0, 1, MAX}, {MIN, MIN, MIN}, {MAX, MAX, MAX}};
        for (int[] span : spans) {
            for (int kind = 0; kind <= 6; kind++) {
                dueMoveRefused(shelf, new int[] {kind, span[0], kind, span[1], span[2]}, 4);
            }
            dueMoveRefused(shelf, new int[] {9, span[0], 6, span[1], span[2]}, 4);
        }
    }

    /** The twin takes the ELEMENTS that came one by one, and a MOVE that is refused by 1. */
    private static void refusedByReason5(Shelf shelf) {
        for (int i = 0; i <= 2; i++) {
            for (int j = 0; j <= i; j++) {
                calls++;
                String name = told("move", 9, i, 6, j, 3 - i);
                SpanMover x = shelf.made();
                due(shelf + ": " + name, x.move(9, i, 6, j, 3 - i), 5);
                due(shelf + ": ended of " + name, x.ended(), 5);
                due(shelf + ": moved of " + name, x.moved(), 2 - i);
                SpanMover y = shelf.made();
                for (int k = 0; k < 2 - i; k++) {
                    y.setThing(6, j + k, 8);
                }
                y.move(-1, 0, -1, 0, 0);
                due(shelf + ": why after " + name, x.why(), y.why());
                dueAlikeButTheLatest(shelf + " after " + name, x, y);
            }
        }
    }

    private static void refusedPlansAndClears(Shelf shelf) {
        if (shelf == Shelf.LIST_FULL) {
            dueUnchanged(shelf, "plan", x -> x.plan(0, 0, 0, 2, 1), -1);
            dueUnchanged(shelf, "plan", x -> x.plan(MIN, MIN, MIN, MIN, MIN), -1);
        }
        for (int p : NO_PLACES) {
            dueUnchanged(shelf, told("clear", p), x -> x.clear(p), 0);
            dueUnchanged(shelf, told("kindOf", p), x -> x.kindOf(p), -1);
            dueUnchanged(shelf, told("length", p), x -> x.length(p), -1);
            dueUnchanged(shelf, told("same", p, 0), x -> x.same(p, 0), -1);
            dueUnchanged(shelf, told("digest", p), x -> x.digest(p), 0);
        }
        for (int what : new int[] {-1, 5, MIN, MAX}) {
            dueUnchanged(shelf, told("count", what), x -> x.count(what), -1);
        }
    }
}
