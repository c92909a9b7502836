import java.util.ArrayList;
import java.util.List;

/**
 * The document once more from its first line: sentences that hold for every place, for every
 * ELEMENT, for spans of every size, in every state and for every object, which a few small inputs
 * can't show. What digest must answer is worked out here from arrays that are held beside the rows.
 */
public final class SpanMoverDocumentTest {
    private static final int PLACES = 400;
    private static final int LONGEST = 2000;
    private static final int LAST_CALL = 512;

    private static String sentence = "";
    private static int tests = 0;
    private static int wrong = 0;

    private interface Call {
        long on(SpanMover x);
    }

    private static final class NamedCall {
        final String name;
        final Call call;

        NamedCall(String name, Call call) {
            this.name = name;
            this.call = call;
        }
    }

    public static void main(String[] args) {
        testEveryObjectAndState();
        testEveryPlaceAndElement();
        testLongSpans();
        testTheLatestAndTheList();
        testReadme();
        System.out.println(wrong == 0 ? tests + " sentences hold throughout"
                : wrong + " answers are not as due");
        if (wrong != 0) {
            System.exit(1);
        }
    }

    private static void testEveryObjectAndState() {
        begin("An object is used for at most 512 calls: each call as the last one");
        eachCallAsTheLast();
        begin("SpanMover(): a new object has nothing of another one's");
        objectsInTurn();
        begin("A new row takes from STOCK, a new thing: nothing else needs it");
        callsWithStock0();
        begin("STOCK: no call but row, mark and seal changes it");
        stockStays();
        begin("A new row needs an EMPTY place, a new thing, lift: nothing else does");
        callsWithoutEmptyPlace();
        begin("The LIST has at most 64 MOVES: only plan asks for room in it");
        callsWithFullList();
    }

    private static void testEveryPlaceAndElement() {
        begin("PLACES have the numbers 0 .. 399: each of them");
        eachPlace();
        begin("A row has a LENGTH, 0 .. 2000: each of them");
        eachLength();
        begin("and so many ELEMENTS, from 0 on: each of them");
        for (int kind = 0; kind <= 6; kind++) {
            eachElement(kind);
        }
        begin("NUMBER k of the row of ints that is ELEMENT i: each of them");
        eachNumberOfAnElement();
        begin("ints (32 bits): NUMBER k of the row of ints, too");
        deepTellsAllBits();
        begin("the same row of ints can stand in many places: in all of them");
        oneRowInAllPlaces();
        begin("the same thing stands in both places");
        oneThingInManyPlaces();
        begin("clear: ELEMENTS of what stood in it stay where they stand");
        elementsOfAClearedRow();
    }

    private static void testLongSpans() {
        begin("ELEMENTS i to i + n - 1 of a's row come to j to j + n - 1 of b's row: long spans");
        for (int kind = 0; kind <= 6; kind++) {
            for (int round = 0; round < 8; round++) {
                longMoves(kind, round);
            }
        }
        begin("as if all had been set aside first: long spans");
        for (int kind = 0; kind <= 6; kind++) {
            longOverlaps(kind);
        }
        begin("a and b may be one row, in two places, too: long spans");
        longOverlapsInTwoPlaces();
        begin("5 one of the ELEMENTS doesn't FIT b's row: in long spans");
        int[][] kinds = {{5, 6}, {4, 5}, {4, 6}, {5, 4}, {6, 4}};
        for (int[] pair : kinds) {
            unfitInLongSpans(pair[0], pair[1]);
        }
        begin("an OBJECT itself, not a copy of it: by move");
        movedObjectsAreThemselves();
    }

    private static void testTheLatestAndTheList() {
        begin("why: How the latest get or deep was refused; no other call changes it");
        whyStays();
        begin("moved, ended, count: of MOVES; no other call changes them");
        toldOfMovesStays();
        begin("The LIST: no call but plan and run changes it");
        listStays();
        begin("A MOVE of the LIST is one from place to place, whatever stands there by then");
        planOfAPlaceThatChanges();
        begin("run: a MOVE with n 0 is one of the LIST like others");
        runOfNothingToMove();
    }

    private static void testReadme() {
        begin("README.md: the example");
        readmeExample();
    }

    private static void begin(String words) {
        sentence = words;
        tests++;
    }

    private static void due(String call, long got, long want) {
        if (got != want) {
            wrong++;
            System.out.println("\"" + sentence + "\": " + call
                    + " answered " + got + ", due is " + want);
        }
    }

    /** Numbers that look like chance ones, but are the same each time. */
    private static final class Picks {
        private long state;

        Picks(int start) {
            state = start * 2654435761L + 12345;
        }

        long bits() {
            state = state * 6364136223846793005L + 1442695040888963407L;
            return state ^ state >>> 29;
        }

        int below(int bound) {
            return (int) ((bits() >>> 33) % bound);
        }
    }

    private static long told(int kind, int value) {
        return kind * 4294967296L + Integer.toUnsignedLong(value);
    }

    private static long narrowed(int kind, long v) {
        switch (kind) {
            case 0:
                return (int) v;
            case 2:
                return (byte) v;
            case 3:
                return (long) (double) v;
            default:
                return v;
        }
    }

    private static long digestOf(int kind, long[] elements) {
        long d = kind + 1;
        for (long x : elements) {
            d = 31 * d + x;
        }
        return d;
    }

    /**
     * In places 0 to 8 stands what has the KIND of that number; the rows have LENGTH 3, and
     * ELEMENT 1 of them is 5, the ints, the Mark, the Seal, the Seal. In place 9 stands a row of
     * Marks: the Seal, the Mark, none.
     */
    private static SpanMover shelf() {
        SpanMover x = new SpanMover();
        for (int kind = 0; kind <= 6; kind++) {
            x.row(kind, 3);
        }
        x.mark(70);
        x.seal(80);
        x.row(5, 3);
        for (int kind = 0; kind <= 3; kind++) {
            x.set(kind, 1, 5);
        }
        x.setThing(4, 1, 0);
        x.setThing(5, 1, 7);
        x.setThing(6, 1, 8);
        x.setThing(9, 0, 8);
        x.setThing(9, 1, 7);
        return x;
    }

    // What it is, and the states

    private static void eachCallAsTheLast() {
        due("row", lastBehind(x -> x.clear(0), x -> x.row(0, LONGEST)), 0);
        due("mark", lastBehind(x -> x.clear(0), x -> x.mark(5)), 0);
        due("seal", lastBehind(x -> x.clear(0), x -> x.seal(5)), 0);
        due("kindOf", lastBehind(x -> x.row(6, 2), x -> x.kindOf(399)), 6);
        due("length", lastBehind(x -> x.row(6, 2), x -> x.length(399)), 2);
        due("set", lastBehind(x -> x.row(0, 1), x -> x.set(399, 0, 5)), 0);
        due("setThing", lastBehind(x -> x.row(5, 1), x -> x.setThing(399, 0, -1)), 0);
        due("get", lastBehind(x -> x.row(5, 1), x -> x.get(399, 0)), -1);
        due("deep", lastBehind(x -> x.row(4, 1), x -> x.deep(399, 0, 0)), 0);
        due("why", lastBehind(x -> x.get(9, 9), x -> x.why()), 1);
        due("lift", lastBehind(x -> x.row(5, 1), x -> x.lift(399, 0)), -5);
        due("move", lastBehind(x -> x.row(0, 1), x -> x.move(0, 0, 399, 0, 1)), 0);
        due("moved", lastBehind(x -> x.move(0, 0, 0, 0, 1), x -> x.moved()), 0);
        due("plan", lastBehind(x -> x.run(), x -> x.plan(0, 0, 0, 0, 1)), 1);
        due("run", lastBehind(x -> x.plan(0, 0, 0, 0, 1), x -> x.run()), 0);
        due("ended", lastBehind(x -> x.move(0, 0, 0, 0, 1), x -> x.ended()), 1);
        due("clear", lastBehind(x -> x.mark(5), x -> x.clear(399)), 1);
        due("same", lastBehind(x -> x.mark(5), x -> x.same(399, 399)), 1);
        due("digest", lastBehind(x -> x.mark(5), x -> x.digest(399)), 253);
        due("places", lastBehind(x -> x.seal(5), x -> x.count(0)), PLACES);
        due("STOCK", lastBehind(x -> x.row(0, 9), x -> x.count(1)), 60000 - 10 * PLACES);
        due("LIST", lastBehind(x -> x.plan(0, 0, 0, 0, 1), x -> x.count(2)), 64);
        due("refused", lastBehind(x -> x.move(0, 0, 0, 0, 1), x -> x.count(4)), LAST_CALL - 1);
        lastCallsOnOneRow();
    }

    private static long lastBehind(Call others, Call last) {
        SpanMover x = new SpanMover();
        for (int call = 1; call < LAST_CALL; call++) {
            others.on(x);
        }
        return last.on(x);
    }

    private static void lastCallsOnOneRow() {
        SpanMover x = new SpanMover();
        x.row(1, 600);
        for (int call = 2; call < LAST_CALL; call++) {
            x.set(0, call, call);
        }
        due("set ahead of digest", x.digest(0), digestOf(1, numbersUpTo(LAST_CALL)));
        SpanMover y = new SpanMover();
        y.row(1, 600);
        y.set(0, 2, 9);
        for (int call = 3; call < LAST_CALL; call++) {
            y.move(0, call - 1, 0, call, 1);
        }
        due("move ahead of get", y.get(0, LAST_CALL - 1), 9);
    }

    private static long[] numbersUpTo(int bound) {
        long[] numbers = new long[600];
        for (int k = 2; k < bound; k++) {
            numbers[k] = k;
        }
        return numbers;
    }

    /** All of each kind of state in three objects, which take their calls in turn. */
    private static void objectsInTurn() {
        SpanMover[] objects = {new SpanMover(), new SpanMover(), new SpanMover()};
        for (int k = 0; k < 3; k++) {
            due("row", objects[k].row(0, 3 + k), 0);
            due("row", objects[k].row(4, 2 + k), 1);
        }
        for (int k = 0; k < 3; k++) {
            due("set", objects[k].set(0, k, 10 + k), 0);
            due("setThing", objects[k].setThing(1, k, 0), 0);
            due("plan", objects[k].plan(0, k, 0, (k + 1) % 3, 1), 1);
        }
        for (int k = 0; k < 3; k++) {
            due("plan", objects[k].plan(1, k, 1, 0, k), 2);
            objects[k].get(k, 9);
            objects[k].move(0, 0, k, 0, 9);
        }
        int[] reasons = {4, 3, 1};
        int[] refusals = {4, 4, 1};
        for (int k = 0; k < 3; k++) {
            due("why", objects[k].why(), refusals[k]);
            due("ended", objects[k].ended(), reasons[k]);
            due("STOCK", objects[k].count(1), 60000 - 7 - 2 * k);
            due("run", objects[k].run(), 2);
        }
        for (int k = 0; k < 3; k++) {
            due("moved", objects[k].moved(), k);
            due("ended", objects[k].ended(), 0);
            due("ELEMENT " + k, objects[k].get(0, k), 10 + k);
            due("what came", objects[k].get(0, (k + 1) % 3), 10 + k);
            due("what didn't", objects[k].get(0, (k + 2) % 3), 0);
            due("length", objects[k].length(0), 3 + k);
            due("deep", objects[k].deep(1, k, k), 10 + k);
            due("done", objects[k].count(3), 2);
            due("refused", objects[k].count(4), 1);
        }
    }

    /** What each call that needs neither STOCK nor a place nor room in the LIST must do. */
    private static void dueUsual(SpanMover x) {
        due("kindOf", x.kindOf(8), 8);
        due("length", x.length(0), 3);
        due("set", x.set(0, 0, 6), 0);
        due("get", x.get(0, 0), 6);
        due("setThing", x.setThing(4, 0, 0), 0);
        due("setThing, none", x.setThing(4, 1, -1), 0);
        due("deep", x.deep(4, 0, 0), 6);
        due("why", x.why(), 0);
        due("move", x.move(0, 0, 0, 1, 2), 0);
        due("moved", x.moved(), 2);
        due("ended", x.ended(), 0);
        due("get", x.get(0, 2), 5);
        due("move that stops", x.move(9, 0, 6, 0, 3), 5);
        due("moved", x.moved(), 1);
        due("ended", x.ended(), 5);
        due("same", x.same(7, 8), 0);
        due("digest", x.digest(8), 9 * 31 + 80);
        due("digest", x.digest(0), digestOf(0, new long[] {6, 6, 5}));
    }

    private static void takeAllStock(SpanMover x) {
        while (x.count(1) > LONGEST) {
            x.clear(x.row(2, LONGEST - 1));
        }
        x.clear(x.row(2, x.count(1) - 1));
    }

    private static void callsWithStock0() {
        SpanMover x = shelf();
        takeAllStock(x);
        due("STOCK", x.count(1), 0);
        due("places", x.count(0), 10);
        dueUsual(x);
        due("lift", x.lift(6, 0), 10);
        due("same", x.same(10, 8), 1);
        due("plan", x.plan(0, 0, 0, 1, 1), 1);
        due("plan", x.plan(1, 1, 1, 0, 1), 2);
        due("LIST", x.count(2), 2);
        due("run", x.run(), 2);
        due("get", x.get(1, 0), 5);
        due("clear", x.clear(10), 1);
        due("clear", x.clear(0), 1);
        due("places", x.count(0), 9);
        due("lift", x.lift(4, 0), 0);
        due("get", x.get(0, 0), 6);
    }

    private static void stockStays() {
        for (NamedCall other : callsOf(OTHERS, READS, MOVES, PLAN, RUN)) {
            SpanMover x = shelf();
            x.plan(1, 1, 1, 0, 1);
            int stock = x.count(1);
            other.call.on(x);
            due("STOCK after " + other.name, x.count(1), stock);
            x.run();
            other.call.on(x);
            due("STOCK after " + other.name, x.count(1), stock);
        }
        for (int kind = 0; kind <= 6; kind++) {
            for (int n : new int[] {0, 1, LONGEST}) {
                SpanMover x = new SpanMover();
                x.row(kind, n);
                due("clear", x.clear(0), 1);
                due("STOCK", x.count(1), 60000 - n - 1);
            }
        }
        SpanMover full = withFullList();
        int stock = full.count(1);
        due("plan", full.plan(1, 1, 1, 2, 1), -1);
        due("STOCK after a refused plan", full.count(1), stock);
    }

    private static void callsWithoutEmptyPlace() {
        SpanMover x = shelf();
        for (int place = 10; place < PLACES; place++) {
            x.mark(place);
        }
        due("places", x.count(0), PLACES);
        dueUsual(x);
        due("plan", x.plan(0, 0, 0, 1, 1), 1);
        due("run", x.run(), 1);
        due("clear", x.clear(399), 1);
        due("lift", x.lift(4, 0), 399);
        due("same", x.same(0, 399), 1);
    }

    private static void callsWithFullList() {
        SpanMover x = withFullList();
        dueUsual(x);
        due("lift", x.lift(6, 1), 10);
        due("row", x.row(0, 1), 11);
        due("mark", x.mark(1), 12);
        due("seal", x.seal(1), 13);
        due("clear", x.clear(11), 1);
        due("LIST", x.count(2), 64);
        due("run", x.run(), 64);
        due("get", x.get(1, 2), 5);
    }

    // Places and ELEMENTS

    private static void eachPlace() {
        for (int place = 0; place < PLACES; place++) {
            SpanMover x = new SpanMover();
            for (int k = 0; k < PLACES; k++) {
                x.mark(k);
            }
            int other = (place + 1) % PLACES;
            due("digest(" + place + ")", x.digest(place), 8 * 31 + place);
            due("same", x.same(place, other), 0);
            due("clear(" + place + ")", x.clear(place), 1);
            due("kindOf(" + place + ")", x.kindOf(place), -1);
            due("row", x.row(0, 2), place);
            due("length(" + place + ")", x.length(place), 2);
            due("set(" + place + ")", x.set(place, 0, place), 0);
            due("clear(" + other + ")", x.clear(other), 1);
            due("row", x.row(0, 1), other);
            due("move", x.move(place, 0, other, 0, 1), 0);
            due("get(" + other + ")", x.get(other, 0), place);
            due("plan", x.plan(other, 0, place, 1, 1), 1);
            due("run", x.run(), 1);
            due("get(" + place + ")", x.get(place, 1), place);
            x.clear(other);
            due("row", x.row(4, 1), other);
            due("setThing", x.setThing(other, 0, place), 0);
            due("deep(" + other + ")", x.deep(other, 0, 1), place);
            x.clear(place);
            due("lift", x.lift(other, 0), place);
            due("get(" + place + ")", x.get(place, 0), place);
            due("places", x.count(0), PLACES);
        }
    }

    private static void eachLength() {
        SpanMover x = new SpanMover();
        for (int n = 0; n <= LONGEST; n++) {
            if (n % 20 == 0) {
                x = new SpanMover();
            }
            int kind = n % 7;
            due("row(" + kind + ", " + n + ")", x.row(kind, n), n % 20);
            due("length", x.length(n % 20), n);
            due("the last ELEMENT", x.get(n % 20, n - 1), n > 0 && kind >= 4 ? -1 : 0);
            due("why", x.why(), n > 0 ? 0 : 4);
            due("behind it", x.get(n % 20, n), 0);
            due("why", x.why(), 4);
            due("digest", x.digest(n % 20), digestOf(kind, new long[n]));
        }
    }

    /** Place 0: a row of LENGTH 2000; place 1: what FITS it, if it is of OBJECTS. */
    private static SpanMover longRow(int kind) {
        SpanMover x = new SpanMover();
        x.row(kind, LONGEST);
        if (kind == 4) {
            x.row(0, 7);
        } else if (kind == 5) {
            x.mark(-7);
        } else {
            x.seal(-7);
        }
        return x;
    }

    private static void eachElement(int kind) {
        long told = kind == 4 ? 7 : told(kind + 2, -7);
        int atOnce = 125;
        for (int first = 0; first < LONGEST; first += atOnce) {
            SpanMover x = longRow(kind);
            long[] elements = new long[LONGEST];
            for (int i = first; i < first + atOnce; i++) {
                long v = kind <= 3 ? narrowed(kind, i * 1000003L + 1) : told;
                due("ELEMENT " + i + " at first", x.get(0, i), kind <= 3 ? 0 : -1);
                if (kind <= 3) {
                    due("set(0, " + i + ")", x.set(0, i, i * 1000003L + 1), 0);
                } else {
                    due("setThing(0, " + i + ")", x.setThing(0, i, 1), 0);
                }
                due("get(0, " + i + ")", x.get(0, i), v);
                elements[i] = kind == 4 ? digestOf(0, new long[7]) : v;
            }
            due("digest", x.digest(0), digestOf(kind, elements));
        }
    }

    private static void eachNumberOfAnElement() {
        int atOnce = 250;
        for (int first = 0; first < LONGEST; first += atOnce) {
            SpanMover x = new SpanMover();
            x.row(4, LONGEST);
            x.row(0, LONGEST);
            int i = first + 77;
            x.setThing(0, i, 1);
            x.clear(1);
            due("lift(0, " + i + ")", x.lift(0, i), 1);
            for (int k = first; k < first + atOnce; k++) {
                x.set(1, k, -k - 1);
                due("deep(0, " + i + ", " + k + ")", x.deep(0, i, k), -k - 1);
            }
        }
    }

    private static void deepTellsAllBits() {
        SpanMover x = shelf();
        for (int bit = 0; bit < 32; bit++) {
            for (int number : new int[] {1 << bit, -(1 << bit), (1 << bit) - 1, ~(1 << bit)}) {
                x.set(0, 2, number);
                due("deep of " + number, x.deep(4, 1, 2), number);
                due("get of " + number, x.get(0, 2), number);
            }
        }
    }

    private static void oneRowInAllPlaces() {
        SpanMover x = new SpanMover();
        x.row(4, 1);
        x.row(0, 2);
        x.setThing(0, 0, 1);
        for (int place = 2; place < PLACES; place++) {
            due("lift", x.lift(0, 0), place);
        }
        x.clear(1);
        x.set(200, 0, 9);
        for (int place = 2; place < PLACES; place += 7) {
            due("get(" + place + ")", x.get(place, 0), 9);
        }
        due("same", x.same(2, 399), 1);
        due("deep", x.deep(0, 0, 0), 9);
        due("move", x.move(2, 0, 399, 1, 1), 0);
        due("get", x.get(300, 1), 9);
        due("digest", x.digest(398), digestOf(0, new long[] {9, 9}));
    }

    private static void oneThingInManyPlaces() {
        for (int kind = 7; kind <= 8; kind++) {
            SpanMover x = shelf();
            int row = kind == 7 ? 5 : 6;
            due("lift", x.lift(row, 1), 10);
            due("lift", x.lift(row, 1), 11);
            due("clear", x.clear(kind), 1);
            due("kindOf", x.kindOf(10), kind);
            due("same", x.same(10, 11), 1);
            due("clear", x.clear(10), 1);
            due("kindOf", x.kindOf(11), kind);
            due("get", x.get(row, 1), told(kind, 10 * kind));
            due("lift", x.lift(row, 1), kind);
            due("same", x.same(kind, 11), 1);
            due("digest", x.digest(11), 31 * (kind + 1) + 10 * kind);
        }
    }

    private static void elementsOfAClearedRow() {
        SpanMover x = shelf();
        x.lift(4, 1);
        for (int place : new int[] {4, 5, 6, 9}) {
            due("clear(" + place + ")", x.clear(place), 1);
            due("kindOf(" + place + ")", x.kindOf(place), -1);
        }
        due("the ints", x.get(0, 1), 5);
        due("the Mark", x.digest(7), 8 * 31 + 70);
        due("the Seal", x.digest(8), 9 * 31 + 80);
        due("the ints, lifted", x.get(10, 1), 5);
        due("same", x.same(0, 10), 1);
        due("places", x.count(0), 7);
    }

    // Long spans

    /** Two rows of one KIND and of LENGTH 2000, in places 0 and 1, and what digest takes of them. */
    private static final class LongRows {
        final SpanMover x = new SpanMover();
        final int kind;
        final long[][] elements = new long[2][LONGEST];
        final Picks picks;

        LongRows(int kind, int start) {
            this.kind = kind;
            this.picks = new Picks(start);
            x.row(kind, LONGEST);
            x.row(kind, LONGEST);
        }

        /** Up to 102 calls, of the 512. */
        void scatter() {
            for (int k = 0; k < 30; k++) {
                putAt(k % 2, picks.below(LONGEST), picks.bits());
            }
            for (int row = 0; row < 2; row++) {
                putAt(row, 0, picks.bits());
                putAt(row, LONGEST - 1, picks.bits());
            }
        }

        private void putAt(int row, int i, long bits) {
            if (kind <= 3) {
                x.set(row, i, bits);
                elements[row][i] = narrowed(kind, bits);
            } else {
                int object = newObject((int) bits);
                x.setThing(row, i, object);
                elements[row][i] = kind == 4 ? x.digest(object) : told(x.kindOf(object), (int) bits);
            }
        }

        private int newObject(int value) {
            if (kind == 4) {
                // Rows of unlike LENGTHS have unlike digests, without a call for each NUMBER.
                return x.row(0, Math.floorMod(value, 90));
            }
            return kind == 5 && value % 2 == 0 ? x.mark(value) : x.seal(value);
        }

        void dueMoved(int from, int i, int to, int j, int n) {
            String name = "KIND " + kind + ", move(" + from + ", " + i + ", " + to + ", " + j
                    + ", " + n + ")";
            due(name, x.move(from, i, to, j, n), 0);
            due("moved of " + name, x.moved(), n);
            System.arraycopy(elements[from], i, elements[to], j, n);
            dueDigest("behind " + name, to);
        }

        void dueDigest(String when, int row) {
            due("digest(" + row + ") " + when, x.digest(row), digestOf(kind, elements[row]));
        }
    }

    private static void longMoves(int kind, int round) {
        LongRows rows = new LongRows(kind, 100 * kind + round);
        rows.scatter();
        Picks picks = rows.picks;
        for (int k = 0; k < 80; k++) {
            int n = picks.below(LONGEST + 1);
            int i = picks.below(LONGEST - n + 1);
            int j = picks.below(LONGEST - n + 1);
            rows.dueMoved(picks.below(2), i, picks.below(2), j, n);
        }
        rows.dueMoved(0, 0, 1, 0, LONGEST);
        rows.dueDigest("at the end", 0);
    }

    private static void longOverlaps(int kind) {
        int[] steps = {1, 2, 7, 8, 31, 64, 255, 256, 257, 999, 1000, 1001, 1023, 1024, 1998, 1999};
        for (int step : steps) {
            LongRows rows = new LongRows(kind, 1000 + step);
            rows.scatter();
            rows.dueMoved(0, 0, 0, step, LONGEST - step);
            rows.dueMoved(1, step, 1, 0, LONGEST - step);
            rows.dueMoved(0, step, 0, 0, LONGEST - step);
            rows.dueMoved(1, 0, 1, step, LONGEST - step);
            rows.dueMoved(1, 0, 1, 0, LONGEST);
            rows.dueMoved(1, 0, 0, 0, LONGEST);
        }
    }

    /** ELEMENT 0 of the row in place 2 is the row in place 0, which stands in place 3, too. */
    private static void longOverlapsInTwoPlaces() {
        for (int step : new int[] {1, 3, 100, 999, 1000, 1500}) {
            LongRows rows = new LongRows(0, 2000 + step);
            rows.scatter();
            SpanMover x = rows.x;
            x.row(4, 1);
            x.setThing(2, 0, 0);
            due("lift", x.lift(2, 0), 3);
            long[] elements = rows.elements[0];
            due("up by " + step, x.move(0, 0, 3, step, LONGEST - step), 0);
            System.arraycopy(elements, 0, elements, step, LONGEST - step);
            rows.dueDigest("up by " + step, 0);
            due("down by " + step, x.move(3, step, 0, 0, LONGEST - step), 0);
            System.arraycopy(elements, step, elements, 0, LONGEST - step);
            rows.dueDigest("down by " + step, 0);
            due("digest(3)", x.digest(3), digestOf(0, elements));
        }
    }

    /**
     * Rows of 2000 in places 0 and 1. Of the first one, one ELEMENT at a time doesn't FIT the
     * second, the others are none, or Seals where these FIT.
     */
    private static void unfitInLongSpans(int fromKind, int toKind) {
        SpanMover x = new SpanMover();
        x.row(fromKind, LONGEST);
        x.row(toKind, LONGEST);
        int unfit = fromKind == 4 ? x.row(0, 2) : fromKind == 5 ? x.mark(3) : x.seal(3);
        int old = toKind == 4 ? x.row(0, 4) : x.seal(4);
        long digestOfOld = toKind == 4 ? x.digest(old) : told(8, 4);
        long[] source = new long[LONGEST];
        long[] target = new long[LONGEST];
        if (fromKind == 5 && toKind == 6) {
            for (int i = 20; i < LONGEST; i += 50) {
                x.setThing(0, i, x.seal(i));
                source[i] = told(8, i);
            }
        }
        int[] edges = {0, 1, 7, 8, 9, 31, 32, 63, 64, 127, 128, 255, 256, 257, 511, 512, 999, 1000,
            1023, 1024, 1025, 1499, 1500, 1997, 1998, 1999};
        for (int at : edges) {
            x.setThing(1, at, old);
            target[at] = digestOfOld;
            x.setThing(0, at, unfit);
            dueStopped(x, at, source, target);
            dueRestMoved(x, at, source, target);
            x.setThing(0, at, -1);
        }
    }

    private static void dueStopped(SpanMover x, int at, long[] source, long[] target) {
        String name = "KIND " + x.kindOf(0) + " to " + x.kindOf(1) + ", unfit " + at;
        due(name, x.move(0, 0, 1, 0, LONGEST), 5);
        due("moved, " + name, x.moved(), at);
        System.arraycopy(source, 0, target, 0, at);
        due("digest, " + name, x.digest(1), digestOf(x.kindOf(1), target));
    }

    private static void dueRestMoved(SpanMover x, int at, long[] source, long[] target) {
        String name = "KIND " + x.kindOf(0) + " to " + x.kindOf(1) + ", but for " + at;
        int behind = LONGEST - at - 1;
        due("ahead, " + name, x.move(0, 0, 1, 0, at), 0);
        due("behind, " + name, x.move(0, at + 1, 1, at + 1, behind), 0);
        System.arraycopy(source, at + 1, target, at + 1, behind);
        due("digest, " + name, x.digest(1), digestOf(x.kindOf(1), target));
    }

    private static void movedObjectsAreThemselves() {
        // From, to, and the place of what is moved.
        int[][] moves = {{4, 4, 0}, {5, 5, 7}, {5, 5, 8}, {6, 6, 8}, {5, 6, 8}, {6, 5, 8}};
        for (int[] m : moves) {
            SpanMover x = shelf();
            int other = x.row(m[1], 9);
            x.setThing(m[0], 0, m[2]);
            due("move", x.move(m[0], 0, other, 4, 1), 0);
            due("same by move", x.same(x.lift(other, 4), m[2]), 1);
            due("same where it was", x.same(x.lift(m[0], 0), m[2]), 1);
            x.plan(m[0], 0, other, 8, 1);
            due("run", x.run(), 1);
            due("same by run", x.same(x.lift(other, 8), m[2]), 1);
        }
        SpanMover x = shelf();
        due("a move that stops", x.move(9, 0, 6, 2, 1) + x.move(9, 0, 6, 0, 3), 5);
        due("same", x.same(x.lift(6, 0), 8), 1);
        due("same", x.same(x.lift(6, 2), 8), 1);
    }

    // The latest, and the LIST

    private static final NamedCall[] READS = {
        new NamedCall("get(0, 1)", x -> x.get(0, 1)),
        new NamedCall("get(6, 1)", x -> x.get(6, 1)),
        new NamedCall("get(0, 9)", x -> x.get(0, 9)),
        new NamedCall("deep(4, 1, 1)", x -> x.deep(4, 1, 1)),
        new NamedCall("deep(4, 0, 1)", x -> x.deep(4, 0, 1)),
    };

    private static final NamedCall[] MOVES = {
        new NamedCall("move(0, 0, 0, 1, 2)", x -> x.move(0, 0, 0, 1, 2)),
        new NamedCall("move(6, 0, 5, 0, 3)", x -> x.move(6, 0, 5, 0, 3)),
        new NamedCall("move(0, 0, 0, 1, 0)", x -> x.move(0, 0, 0, 1, 0)),
        new NamedCall("move(99, 0, 0, 0, 1)", x -> x.move(99, 0, 0, 0, 1)),
        new NamedCall("move(9, 0, 6, 0, 3)", x -> x.move(9, 0, 6, 0, 3)),
    };

    private static final NamedCall[] MAKERS = {
        new NamedCall("row(0, 1)", x -> x.row(0, 1)),
        new NamedCall("row(6, 0)", x -> x.row(6, 0)),
        new NamedCall("mark(1)", x -> x.mark(1)),
        new NamedCall("seal(1)", x -> x.seal(1)),
    };

    /** All else, refused or not; none of it changes rows 1 and 2. */
    private static final NamedCall[] OTHERS = {
        new NamedCall("row(7, 1)", x -> x.row(7, 1)),
        new NamedCall("row(0, 2001)", x -> x.row(0, 2001)),
        new NamedCall("row(0, -1)", x -> x.row(0, -1)),
        new NamedCall("kindOf(0)", x -> x.kindOf(0)),
        new NamedCall("kindOf(99)", x -> x.kindOf(99)),
        new NamedCall("length(0)", x -> x.length(0)),
        new NamedCall("length(7)", x -> x.length(7)),
        new NamedCall("length(99)", x -> x.length(99)),
        new NamedCall("set(0, 0, 1)", x -> x.set(0, 0, 1)),
        new NamedCall("set(3, 2, 1)", x -> x.set(3, 2, 1)),
        new NamedCall("set(0, 3, 1)", x -> x.set(0, 3, 1)),
        new NamedCall("set(99, 0, 1)", x -> x.set(99, 0, 1)),
        new NamedCall("setThing(4, 0, 0)", x -> x.setThing(4, 0, 0)),
        new NamedCall("setThing(4, 1, -1)", x -> x.setThing(4, 1, -1)),
        new NamedCall("setThing(5, 1, -1)", x -> x.setThing(5, 1, -1)),
        new NamedCall("setThing(6, 1, -1)", x -> x.setThing(6, 1, -1)),
        new NamedCall("setThing(6, 1, 7)", x -> x.setThing(6, 1, 7)),
        new NamedCall("setThing(6, 3, 8)", x -> x.setThing(6, 3, 8)),
        new NamedCall("why()", x -> x.why()),
        new NamedCall("lift(4, 1)", x -> x.lift(4, 1)),
        new NamedCall("lift(6, 1)", x -> x.lift(6, 1)),
        new NamedCall("lift(6, 0)", x -> x.lift(6, 0)),
        new NamedCall("moved()", x -> x.moved()),
        new NamedCall("ended()", x -> x.ended()),
        new NamedCall("clear(0)", x -> x.clear(0)),
        new NamedCall("clear(8)", x -> x.clear(8)),
        new NamedCall("clear(99)", x -> x.clear(99)),
        new NamedCall("same(0, 0)", x -> x.same(0, 0)),
        new NamedCall("same(0, 1)", x -> x.same(0, 1)),
        new NamedCall("same(0, 99)", x -> x.same(0, 99)),
        new NamedCall("digest(0)", x -> x.digest(0)),
        new NamedCall("digest(4)", x -> x.digest(4)),
        new NamedCall("digest(8)", x -> x.digest(8)),
        new NamedCall("digest(99)", x -> x.digest(99)),
        new NamedCall("count(0)", x -> x.count(0)),
        new NamedCall("count(1)", x -> x.count(1)),
        new NamedCall("count(2)", x -> x.count(2)),
        new NamedCall("count(3)", x -> x.count(3)),
        new NamedCall("count(4)", x -> x.count(4)),
        new NamedCall("count(5)", x -> x.count(5)),
    };

    private static final NamedCall[] PLAN = {
        new NamedCall("plan(1, 0, 1, 0, 1)", x -> x.plan(1, 0, 1, 0, 1)),
    };

    private static final NamedCall[] RUN = {new NamedCall("run()", x -> x.run())};

    private static List<NamedCall> callsOf(NamedCall[]... groups) {
        List<NamedCall> calls = new ArrayList<>();
        for (NamedCall[] group : groups) {
            calls.addAll(List.of(group));
        }
        return calls;
    }

    private static void whyStays() {
        for (NamedCall other : callsOf(MAKERS, OTHERS, MOVES, PLAN, RUN)) {
            SpanMover x = shelf();
            x.plan(1, 1, 1, 0, 1);
            x.plan(1, 1, 99, 0, 1);
            x.deep(4, 0, 0);
            other.call.on(x);
            due("why after " + other.name, x.why(), 5);
            x.get(6, 1);
            other.call.on(x);
            due("why after " + other.name, x.why(), 0);
        }
        SpanMover x = withFullList();
        x.deep(4, 0, 0);
        due("plan", x.plan(1, 1, 1, 0, 1), -1);
        due("why after a refused plan", x.why(), 5);
        x.run();
        due("run", x.run(), 0);
        due("why after a run of none", x.why(), 5);
    }

    private static SpanMover withFullList() {
        SpanMover x = shelf();
        for (int k = 1; k <= 64; k++) {
            due("plan", x.plan(1, 1, 1, 2, 1), k);
        }
        return x;
    }

    private static void toldOfMovesStays() {
        for (NamedCall other : callsOf(MAKERS, OTHERS, READS, PLAN)) {
            SpanMover x = shelf();
            x.move(1, 0, 1, 0, 3);
            x.move(1, 0, 1, 0, 3);
            x.move(9, 0, 6, 0, 3);
            other.call.on(x);
            dueToldOfMoves(x, other.name, 1, 5, 2, 1);
            x.move(1, 0, 1, 0, 2);
            other.call.on(x);
            dueToldOfMoves(x, other.name, 2, 0, 3, 1);
        }
        SpanMover x = shelf();
        x.move(9, 0, 6, 0, 3);
        due("run of none", x.run(), 0);
        dueToldOfMoves(x, "a run of none", 1, 5, 0, 1);
        SpanMover full = withFullList();
        full.move(9, 0, 6, 0, 3);
        due("plan", full.plan(1, 1, 1, 0, 1), -1);
        dueToldOfMoves(full, "a refused plan", 1, 5, 0, 1);
    }

    private static void dueToldOfMoves(SpanMover x, String name, int moved, int ended, int done,
            int refused) {
        due("moved after " + name, x.moved(), moved);
        due("ended after " + name, x.ended(), ended);
        due("count(3) after " + name, x.count(3), done);
        due("count(4) after " + name, x.count(4), refused);
    }

    private static void listStays() {
        for (NamedCall other : callsOf(MAKERS, OTHERS, READS, MOVES)) {
            SpanMover x = shelf();
            x.plan(1, 1, 1, 0, 1);
            x.plan(2, 1, 2, 2, 1);
            other.call.on(x);
            due("LIST after " + other.name, x.count(2), 2);
            due("run after " + other.name, x.run(), 2);
            due("the first of the LIST after " + other.name, x.get(1, 0), 5);
            due("the second of the LIST after " + other.name, x.get(2, 2), 5);
            due("LIST", x.count(2), 0);
        }
    }

    private static void planOfAPlaceThatChanges() {
        SpanMover x = shelf();
        x.plan(1, 1, 1, 0, 1);
        x.clear(1);
        due("LIST", x.count(2), 1);
        due("another row", x.row(1, 3), 1);
        x.set(1, 1, 66);
        due("run", x.run(), 1);
        due("get", x.get(1, 0), 66);
        x.plan(1, 1, 1, 2, 1);
        x.clear(1);
        due("a thing", x.mark(1), 1);
        due("run", x.run(), 0);
        due("ended", x.ended(), 2);
        x.plan(2, 1, 2, 0, 1);
        x.plan(2, 1, 2, 0, 1);
        x.clear(2);
        due("LIST", x.count(2), 2);
        due("run", x.run(), 0);
        due("ended", x.ended(), 1);
    }

    private static void runOfNothingToMove() {
        SpanMover x = shelf();
        for (int k = 1; k <= 3; k++) {
            due("plan", x.plan(0, 3, 0, 3, 0), k);
        }
        due("plan", x.plan(0, 1, 0, 2, 1), 4);
        due("plan", x.plan(0, 0, 0, 0, 0), 5);
        due("plan", x.plan(0, 4, 0, 0, 0), 6);
        due("run", x.run(), 5);
        due("ended", x.ended(), 4);
        due("moved", x.moved(), 0);
        due("done", x.count(3), 5);
        due("refused", x.count(4), 1);
        due("get", x.get(0, 2), 5);
    }

    // README.md

    private static void readmeExample() {
        SpanMover shelf = new SpanMover();
        int ints = shelf.row(0, 4);
        due("row", ints, 0);
        due("set", shelf.set(ints, 0, 7), 0);
        due("move", shelf.move(ints, 0, ints, 1, 3), 0);
        due("get", shelf.get(ints, 1), 7);
        due("get", shelf.get(ints, 4), 0);
        due("why", shelf.why(), 4);
        int marks = shelf.row(5, 3);
        due("row", marks, 1);
        int seals = shelf.row(6, 3);
        due("row", seals, 2);
        due("setThing", shelf.setThing(marks, 0, shelf.seal(11)), 0);
        due("setThing", shelf.setThing(marks, 1, shelf.mark(22)), 0);
        due("move", shelf.move(marks, 0, seals, 0, 3), 5);
        due("moved", shelf.moved(), 1);
        due("plan", shelf.plan(ints, 0, ints, 3, 1), 1);
        due("plan", shelf.plan(ints, 0, marks, 0, 1), 2);
        due("run", shelf.run(), 1);
        due("ended", shelf.ended(), 3);
    }
}
