/** For each promise of the document: ordinary inputs, the edges that it names, wrong inputs. */
public final class SpanMoverPromisesTest {
    private static final int MIN = Integer.MIN_VALUE;
    private static final int MAX = Integer.MAX_VALUE;
    private static final int[] NO_PLACES = {-1, -2, 400, 401, MIN, MAX};

    private static int wrong = 0;
    private static int promise = 0;
    private static int check = 0;

    public static void main(String[] args) {
        begin(1);
        newObject();
        begin(2);
        rowStandsInLowestEmptyPlace();
        rowRefusals();
        rowRefusedByStock();
        rowRefusedByPlaces();
        begin(3);
        things(false);
        begin(4);
        things(true);
        begin(5);
        kinds();
        begin(6);
        lengths();
        begin(7);
        setNarrows();
        setRefusals();
        begin(8);
        setThingFits();
        setThingRefusals();
        begin(9);
        getTells();
        getRefusals();
        begin(10);
        deepTells();
        deepRefusals();
        begin(11);
        whyIsOfTheLatest();
        begin(12);
        liftStands();
        liftRefusals();
        begin(13);
        moveOfNumbers();
        moveWithinOneRow();
        moveOfObjects();
        moveRefusalsInOrder();
        moveRefusedBySpans();
        moveThatStops();
        begin(14);
        movedTells();
        begin(15);
        planFillsTheList();
        begin(16);
        runDoesTheList();
        runUsesWhatWasPlanned();
        runSeesWhatStandsThen();
        begin(17);
        endedTells();
        begin(18);
        clearEmpties();
        begin(19);
        sameTells();
        begin(20);
        digestOfNumbers();
        digestOfObjects();
        digestSeesEveryChange();
        digestOfOneRowManyTimes();
        begin(21);
        countTells();
        System.out.println(wrong == 0 ? "all promises are kept" : wrong + " answers are not as due");
        if (wrong != 0) {
            System.exit(1);
        }
    }

    private static void begin(int number) {
        promise = number;
        check = 0;
    }

    private static void due(String call, long got, long want) {
        check++;
        if (got != want) {
            wrong++;
            System.out.println("promise " + promise + ", check " + check + ": " + call
                    + " answered " + got + ", due is " + want);
        }
    }

    private static void setAll(SpanMover x, int place, long... values) {
        for (int i = 0; i < values.length; i++) {
            due("set", x.set(place, i, values[i]), 0);
        }
    }

    private static void dueRow(SpanMover x, int place, long... values) {
        due("length", x.length(place), values.length);
        for (int i = 0; i < values.length; i++) {
            due("get(" + place + ", " + i + ")", x.get(place, i), values[i]);
            due("why", x.why(), 0);
        }
    }

    private static long markTold(int value) {
        return 7L * 4294967296L + Integer.toUnsignedLong(value);
    }

    private static long sealTold(int value) {
        return 8L * 4294967296L + Integer.toUnsignedLong(value);
    }

    private static void newObject() {
        SpanMover x = new SpanMover();
        for (int place = 0; place < 400; place++) {
            due("kindOf", x.kindOf(place), -1);
        }
        due("count(0)", x.count(0), 0);
        due("count(1)", x.count(1), 60000);
        due("count(2)", x.count(2), 0);
        due("count(3)", x.count(3), 0);
        due("count(4)", x.count(4), 0);
        due("why", x.why(), 0);
        due("moved", x.moved(), 0);
        due("ended", x.ended(), 0);
        due("run", x.run(), 0);
        due("moved", x.moved(), 0);
        due("ended", x.ended(), 0);
        SpanMover other = new SpanMover();
        due("mark", other.mark(1), 0);
        due("kindOf of another object", x.kindOf(0), -1);
    }

    private static void rowStandsInLowestEmptyPlace() {
        SpanMover x = new SpanMover();
        for (int kind = 0; kind <= 6; kind++) {
            due("row", x.row(kind, kind), kind);
            due("kindOf", x.kindOf(kind), kind);
            due("length", x.length(kind), kind);
        }
        due("STOCK", x.count(1), 60000 - 21 - 7);
        x.clear(4);
        x.clear(2);
        due("row", x.row(3, 2000), 2);
        due("row", x.row(5, 0), 4);
        due("row", x.row(0, 1), 7);
        dueRow(x, 3, 0, 0, 0);
        due("length", x.length(2), 2000);
        due("last ELEMENT at first", x.get(2, 1999), 0);
        for (int kind = 4; kind <= 6; kind++) {
            int place = x.row(kind, 2);
            dueRow(x, place, -1, -1);
        }
    }

    private static void rowRefusals() {
        SpanMover x = new SpanMover();
        due("row(-1, 0)", x.row(-1, 0), -1);
        due("row(7, 0)", x.row(7, 0), -1);
        due("row(8, 0)", x.row(8, 0), -1);
        due("row(MIN, 0)", x.row(MIN, 0), -1);
        due("row(MAX, 0)", x.row(MAX, 0), -1);
        due("row(-1, 2001)", x.row(-1, 2001), -1);
        due("row(7, -1)", x.row(7, -1), -1);
        due("row(0, 2001)", x.row(0, 2001), -2);
        due("row(6, MAX)", x.row(6, MAX), -2);
        due("row(0, -1)", x.row(0, -1), -3);
        due("row(6, MIN)", x.row(6, MIN), -3);
        due("STOCK", x.count(1), 60000);
        due("places", x.count(0), 0);
    }

    private static void rowRefusedByStock() {
        SpanMover x = new SpanMover();
        for (int k = 0; k < 29; k++) {
            due("row", x.row(k % 7, 2000), k);
        }
        due("STOCK", x.count(1), 1971);
        due("row(0, 1971)", x.row(0, 1971), -2);
        due("row(0, 2000)", x.row(0, 2000), -2);
        due("row(0, 1969)", x.row(0, 1969), 29);
        due("STOCK", x.count(1), 1);
        due("row(4, 1)", x.row(4, 1), -2);
        due("clear gives nothing back", x.clear(0), 1);
        due("STOCK", x.count(1), 1);
        due("row(4, 0)", x.row(4, 0), 0);
        due("STOCK", x.count(1), 0);
        due("row(4, 0)", x.row(4, 0), -2);
        due("row(4, -1)", x.row(4, -1), -3);
        due("row(9, 0)", x.row(9, 0), -1);
        due("mark", x.mark(1), -2);
        due("seal", x.seal(1), -2);
        due("places", x.count(0), 30);
    }

    private static void rowRefusedByPlaces() {
        SpanMover x = new SpanMover();
        for (int k = 0; k < 400; k++) {
            due("row", x.row(0, 0), k);
        }
        due("row(0, 0)", x.row(0, 0), -2);
        due("row(0, -1)", x.row(0, -1), -2);
        due("row(0, MIN)", x.row(0, MIN), -2);
        due("row(-1, 0)", x.row(-1, 0), -1);
        due("STOCK", x.count(1), 59600);
        due("clear", x.clear(399), 1);
        due("row(0, -1)", x.row(0, -1), -3);
        due("row(1, 3)", x.row(1, 3), 399);
        due("kindOf", x.kindOf(399), 1);
    }

    private static int thing(SpanMover x, boolean isSeal, int v) {
        return isSeal ? x.seal(v) : x.mark(v);
    }

    private static void things(boolean isSeal) {
        int kind = isSeal ? 8 : 7;
        SpanMover x = new SpanMover();
        due("thing", thing(x, isSeal, 5), 0);
        due("thing", thing(x, isSeal, -5), 1);
        due("thing", thing(x, isSeal, MIN), 2);
        due("kindOf", x.kindOf(1), kind);
        due("digest", x.digest(0), 31L * (kind + 1) + 5);
        due("digest", x.digest(1), 31L * (kind + 1) - 5);
        due("digest", x.digest(2), 31L * (kind + 1) + MIN);
        due("STOCK", x.count(1), 59997);
        due("clear", x.clear(1), 1);
        due("thing", thing(x, isSeal, 7), 1);
        due("equal VALUES, two things", x.same(thing(x, isSeal, 7), 1), 0);
        for (int place = 4; place < 400; place++) {
            due("thing", thing(x, isSeal, place), place);
        }
        due("STOCK", x.count(1), 59599);
        due("no place", thing(x, isSeal, 1), -2);
        due("STOCK", x.count(1), 59599);
        thingRefusedByStock(isSeal);
    }

    private static void thingRefusedByStock(boolean isSeal) {
        SpanMover x = new SpanMover();
        for (int k = 0; k < 29; k++) {
            x.row(2, 2000);
        }
        due("row", x.row(2, 1969), 29);
        due("STOCK", x.count(1), 1);
        due("thing", thing(x, isSeal, 1), 30);
        due("STOCK", x.count(1), 0);
        due("thing", thing(x, isSeal, 1), -2);
        due("places", x.count(0), 31);
    }

    private static void kinds() {
        SpanMover x = new SpanMover();
        for (int kind = 0; kind <= 6; kind++) {
            due("row", x.row(kind, 1), kind);
        }
        due("mark", x.mark(0), 7);
        due("seal", x.seal(0), 8);
        for (int place = 0; place <= 8; place++) {
            due("kindOf", x.kindOf(place), place);
        }
        due("kindOf(9)", x.kindOf(9), -1);
        due("kindOf(399)", x.kindOf(399), -1);
        for (int place : NO_PLACES) {
            due("kindOf(" + place + ")", x.kindOf(place), -1);
        }
        x.clear(3);
        due("kindOf after clear", x.kindOf(3), -1);
    }

    private static void lengths() {
        SpanMover x = new SpanMover();
        x.row(0, 0);
        x.row(4, 3);
        x.row(2, 2000);
        x.mark(9);
        x.seal(9);
        due("length(0)", x.length(0), 0);
        due("length(1)", x.length(1), 3);
        due("length(2)", x.length(2), 2000);
        due("length(3)", x.length(3), -2);
        due("length(4)", x.length(4), -2);
        due("length(5)", x.length(5), -1);
        for (int place : NO_PLACES) {
            due("length(" + place + ")", x.length(place), -1);
        }
    }

    private static void setNarrows() {
        SpanMover x = new SpanMover();
        for (int kind = 0; kind <= 3; kind++) {
            x.row(kind, 6);
        }
        long[] values = {1, -1, 128, 4294967295L, Long.MIN_VALUE, Long.MAX_VALUE};
        for (int kind = 0; kind <= 3; kind++) {
            setAll(x, kind, values);
        }
        dueRow(x, 0, 1, -1, 128, -1, 0, -1);
        dueRow(x, 1, values);
        dueRow(x, 2, 1, -1, -128, -1, 0, -1);
        dueRow(x, 3, values);
        setAll(x, 0, 2147483648L, -2147483649L, 4294967299L);
        setAll(x, 2, 255, 256, -129);
        due("int of 2^31", x.get(0, 0), MIN);
        due("int of -2^31 - 1", x.get(0, 1), MAX);
        due("int of 2^32 + 3", x.get(0, 2), 3);
        due("byte of 255", x.get(2, 0), -1);
        due("byte of 256", x.get(2, 1), 0);
        due("byte of -129", x.get(2, 2), 127);
        doublesAreNearest(x);
    }

    private static void doublesAreNearest(SpanMover x) {
        long wide = 9007199254740992L;
        setAll(x, 3, wide + 1, wide + 3, -wide - 1, -wide - 3, wide + 2, Long.MAX_VALUE - 511);
        dueRow(x, 3, wide, wide + 4, -wide, -wide - 4, wide + 2, Long.MAX_VALUE);
        due("set", x.set(3, 0, Long.MAX_VALUE - 512), 0);
        due("below the last tie", x.get(3, 0), Long.MAX_VALUE - 1023);
        due("set", x.set(3, 0, wide - 1), 0);
        due("exact", x.get(3, 0), wide - 1);
    }

    private static void setRefusals() {
        SpanMover x = new SpanMover();
        x.row(0, 2);
        x.mark(4);
        x.seal(4);
        x.row(4, 2);
        x.row(5, 2);
        x.row(6, 2);
        x.row(3, 0);
        due("EMPTY", x.set(9, -1, 1), 1);
        for (int place : NO_PLACES) {
            due("set(" + place + ")", x.set(place, 0, 1), 1);
        }
        due("a Mark", x.set(1, -1, 1), 2);
        due("a Seal", x.set(2, 0, 1), 2);
        for (int place = 3; place <= 5; place++) {
            due("of OBJECTS", x.set(place, 0, 1), 3);
            due("of OBJECTS, no ELEMENT", x.set(place, 2, 1), 3);
        }
        for (int i : new int[] {-1, 2, MIN, MAX}) {
            due("no ELEMENT " + i, x.set(0, i, 1), 4);
        }
        due("no ELEMENT at all", x.set(6, 0, 1), 4);
        dueRow(x, 0, 0, 0);
        due("set", x.set(0, 1, 6), 0);
        dueRow(x, 0, 0, 6);
    }

    private static void setThingFits() {
        SpanMover x = new SpanMover();
        for (int kind = 0; kind <= 6; kind++) {
            x.row(kind, 2);
        }
        x.mark(70);
        x.seal(80);
        for (int thing = 0; thing <= 8; thing++) {
            due("into KIND 4", x.setThing(4, 0, thing), thing == 0 ? 0 : 5);
            due("into KIND 5", x.setThing(5, 0, thing), thing >= 7 ? 0 : 5);
            due("into KIND 6", x.setThing(6, 0, thing), thing == 8 ? 0 : 5);
        }
        dueRow(x, 4, 2, -1);
        dueRow(x, 5, sealTold(80), -1);
        dueRow(x, 6, sealTold(80), -1);
        for (int place = 4; place <= 6; place++) {
            due("none", x.setThing(place, 0, -1), 0);
            dueRow(x, place, -1, -1);
        }
        due("itself, not a copy", x.setThing(4, 1, 0), 0);
        x.set(0, 1, 12);
        due("deep", x.deep(4, 1, 1), 12);
        due("lift", x.lift(4, 1), 9);
        due("same", x.same(9, 0), 1);
    }

    private static void setThingRefusals() {
        SpanMover x = new SpanMover();
        x.row(4, 2);
        x.row(0, 2);
        x.mark(3);
        x.row(5, 2);
        due("EMPTY", x.setThing(9, 0, 1), 1);
        due("EMPTY, none", x.setThing(9, 0, -1), 1);
        due("EMPTY thing", x.setThing(0, 0, 9), 1);
        due("EMPTY thing into a thing", x.setThing(2, 0, 9), 1);
        due("EMPTY thing into NUMBERS", x.setThing(1, 0, 9), 1);
        due("EMPTY thing, no ELEMENT", x.setThing(0, 7, 9), 1);
        for (int place : NO_PLACES) {
            due("setThing(" + place + ")", x.setThing(place, 0, 1), 1);
            due("thing " + place, x.setThing(0, 0, place), place == -1 ? 0 : 1);
        }
        due("a thing", x.setThing(2, -1, 1), 2);
        due("a thing, none", x.setThing(2, 0, -1), 2);
        due("NUMBERS", x.setThing(1, -1, 1), 3);
        due("NUMBERS, none", x.setThing(1, 0, -1), 3);
        for (int i : new int[] {-1, 2, MIN, MAX}) {
            due("no ELEMENT " + i, x.setThing(0, i, 1), 4);
            due("no ELEMENT, no FIT " + i, x.setThing(0, i, 2), 4);
            due("no ELEMENT, none " + i, x.setThing(0, i, -1), 4);
        }
        due("no FIT", x.setThing(0, 0, 2), 5);
        due("a row into itself", x.setThing(0, 0, 0), 5);
        due("no FIT", x.setThing(3, 1, 1), 5);
        dueRow(x, 0, -1, -1);
        dueRow(x, 3, -1, -1);
    }

    private static void getTells() {
        SpanMover x = new SpanMover();
        x.row(5, 5);
        x.row(4, 3);
        x.row(0, 2000);
        x.row(0, 0);
        int[] values = {0, -1, MIN, MAX, 65};
        for (int k = 0; k < 5; k++) {
            int place = k % 2 == 0 ? x.mark(values[k]) : x.seal(values[k]);
            due("setThing", x.setThing(0, k, place), 0);
        }
        dueRow(x, 0, markTold(0), sealTold(-1), markTold(MIN), sealTold(MAX), markTold(65));
        due("written out", x.get(0, 1), 38654705663L);
        x.setThing(1, 0, 2);
        x.setThing(1, 2, 3);
        dueRow(x, 1, 2000, -1, 0);
    }

    private static void getRefusals() {
        SpanMover x = new SpanMover();
        x.row(1, 2);
        x.mark(3);
        x.row(6, 2);
        setAll(x, 0, 5, 6);
        due("EMPTY", x.get(3, -1), 0);
        due("why", x.why(), 1);
        for (int place : NO_PLACES) {
            x.get(0, 0);
            due("get(" + place + ")", x.get(place, 0), 0);
            due("why", x.why(), 1);
        }
        due("a thing", x.get(1, -1), 0);
        due("why", x.why(), 2);
        for (int i : new int[] {-1, 2, MIN, MAX}) {
            for (int place = 0; place <= 2; place += 2) {
                x.get(0, 0);
                due("no ELEMENT", x.get(place, i), 0);
                due("why", x.why(), 4);
            }
        }
        due("get", x.get(0, 1), 6);
        due("why", x.why(), 0);
    }

    private static void deepTells() {
        SpanMover x = new SpanMover();
        x.row(4, 2);
        x.row(0, 3);
        setAll(x, 1, 10, -20, 4294967296L + 30);
        x.setThing(0, 1, 1);
        due("deep", x.deep(0, 1, 0), 10);
        due("deep", x.deep(0, 1, 1), -20);
        due("deep", x.deep(0, 1, 2), 30);
        due("why", x.why(), 0);
        x.clear(1);
        due("deep of a row in no place", x.deep(0, 1, 1), -20);
    }

    private static void dueDeepRefused(SpanMover x, int place, int i, int k, int reason) {
        due("deep", x.deep(place, i, k), 0);
        due("why", x.why(), reason);
    }

    private static void deepRefusals() {
        SpanMover x = new SpanMover();
        x.row(4, 2);
        x.row(0, 3);
        x.mark(1);
        x.row(5, 2);
        x.row(6, 2);
        setAll(x, 1, 10, 20, 30);
        x.setThing(0, 0, 1);
        dueDeepRefused(x, 9, -1, -1, 1);
        for (int place : NO_PLACES) {
            dueDeepRefused(x, place, 0, 0, 1);
        }
        dueDeepRefused(x, 2, -1, -1, 2);
        dueDeepRefused(x, 1, -1, -1, 3);
        dueDeepRefused(x, 1, 0, 0, 3);
        dueDeepRefused(x, 3, 0, 0, 3);
        dueDeepRefused(x, 4, 9, 0, 3);
        for (int i : new int[] {-1, 2, MIN, MAX}) {
            dueDeepRefused(x, 0, i, -1, 4);
        }
        dueDeepRefused(x, 0, 1, -1, 5);
        dueDeepRefused(x, 0, 1, 0, 5);
        for (int k : new int[] {-1, 3, MIN, MAX}) {
            dueDeepRefused(x, 0, 0, k, 6);
        }
        due("deep", x.deep(0, 0, 2), 30);
        due("why", x.why(), 0);
    }

    private static void whyIsOfTheLatest() {
        SpanMover x = new SpanMover();
        due("none yet", x.why(), 0);
        x.set(0, 0, 1);
        x.setThing(0, 0, 1);
        x.lift(0, 0);
        x.move(0, 0, 0, 0, 0);
        x.digest(0);
        due("other calls don't count", x.why(), 0);
        x.get(0, 0);
        due("get", x.why(), 1);
        x.row(0, 1);
        x.set(0, 0, 1);
        x.set(0, 5, 1);
        x.digest(0);
        due("still", x.why(), 1);
        due("still", x.why(), 1);
        x.deep(0, 0, 0);
        due("deep", x.why(), 3);
        x.get(0, 1);
        due("get", x.why(), 4);
        x.get(0, 0);
        due("not refused", x.why(), 0);
        x.get(5, 0);
        x.row(4, 1);
        x.setThing(1, 0, 0);
        x.deep(1, 0, 0);
        due("deep not refused", x.why(), 0);
    }

    private static void liftStands() {
        SpanMover x = new SpanMover();
        x.row(4, 1);
        x.row(5, 2);
        x.row(6, 1);
        x.row(0, 4);
        x.mark(-1);
        x.seal(2);
        x.setThing(0, 0, 3);
        x.setThing(1, 0, 4);
        x.setThing(1, 1, 5);
        x.setThing(2, 0, 5);
        int stock = x.count(1);
        x.clear(3);
        due("lift", x.lift(0, 0), 3);
        due("lift", x.lift(0, 0), 6);
        due("lift", x.lift(1, 0), 7);
        due("lift", x.lift(1, 1), 8);
        due("lift", x.lift(2, 0), 9);
        due("same", x.same(3, 6), 1);
        due("same", x.same(7, 4), 1);
        due("same", x.same(8, 5), 1);
        due("same", x.same(8, 9), 1);
        due("kindOf", x.kindOf(6), 0);
        due("kindOf", x.kindOf(7), 7);
        due("kindOf", x.kindOf(8), 8);
        x.set(6, 3, 44);
        due("seen by all", x.get(3, 3), 44);
        due("seen by all", x.deep(0, 0, 3), 44);
        due("STOCK", x.count(1), stock);
        dueRow(x, 1, markTold(-1), sealTold(2));
    }

    private static void liftRefusals() {
        SpanMover x = new SpanMover();
        x.row(5, 2);
        x.row(3, 2);
        x.seal(1);
        x.setThing(0, 0, 2);
        due("EMPTY", x.lift(9, -1), -1);
        for (int place : NO_PLACES) {
            due("lift(" + place + ")", x.lift(place, 0), -1);
        }
        due("a thing", x.lift(2, -1), -2);
        due("NUMBERS", x.lift(1, 0), -3);
        due("NUMBERS, no ELEMENT", x.lift(1, 2), -3);
        for (int i : new int[] {-1, 2, MIN, MAX}) {
            due("no ELEMENT", x.lift(0, i), -4);
        }
        due("none", x.lift(0, 1), -5);
        due("places", x.count(0), 3);
        for (int place = 3; place < 400; place++) {
            due("lift", x.lift(0, 0), place);
        }
        due("no place", x.lift(0, 0), -6);
        due("none, and no place", x.lift(0, 1), -5);
        due("no ELEMENT, and no place", x.lift(0, 2), -4);
        x.clear(200);
        due("lift", x.lift(0, 0), 200);
    }

    private static void moveOfNumbers() {
        for (int kind = 0; kind <= 3; kind++) {
            SpanMover x = new SpanMover();
            x.row(kind, 4);
            x.row(kind, 6);
            setAll(x, 0, 1, -2, 3, 4);
            setAll(x, 1, 11, 12, 13, 14, 15, 16);
            due("move", x.move(0, 1, 1, 3, 2), 0);
            dueRow(x, 1, 11, 12, 13, -2, 3, 16);
            dueRow(x, 0, 1, -2, 3, 4);
            due("the whole", x.move(0, 0, 1, 2, 4), 0);
            dueRow(x, 1, 11, 12, 1, -2, 3, 4);
            x.set(0, 0, 9);
            due("NUMBERS are copied", x.get(1, 2), 1);
        }
    }

    private static void moveWithinOneRow() {
        for (int kind = 0; kind <= 3; kind++) {
            SpanMover x = new SpanMover();
            x.row(kind, 6);
            setAll(x, 0, 1, 2, 3, 4, 5, 6);
            due("upward", x.move(0, 0, 0, 1, 5), 0);
            dueRow(x, 0, 1, 1, 2, 3, 4, 5);
            due("downward", x.move(0, 2, 0, 0, 4), 0);
            dueRow(x, 0, 2, 3, 4, 5, 4, 5);
            due("onto itself", x.move(0, 0, 0, 0, 6), 0);
            dueRow(x, 0, 2, 3, 4, 5, 4, 5);
        }
        moveWithinOneRowInTwoPlaces();
        moveWithinOneRowOfObjects();
    }

    private static void moveWithinOneRowInTwoPlaces() {
        SpanMover x = new SpanMover();
        x.row(0, 5);
        x.row(4, 1);
        x.setThing(1, 0, 0);
        due("lift", x.lift(1, 0), 2);
        setAll(x, 0, 1, 2, 3, 4, 5);
        due("move", x.move(0, 0, 2, 2, 3), 0);
        dueRow(x, 0, 1, 2, 1, 2, 3);
        due("move", x.move(2, 1, 0, 0, 4), 0);
        dueRow(x, 2, 2, 1, 2, 3, 3);
    }

    private static void moveWithinOneRowOfObjects() {
        SpanMover x = new SpanMover();
        x.row(5, 5);
        for (int k = 0; k < 4; k++) {
            x.setThing(0, k, k % 2 == 0 ? x.mark(k) : x.seal(k));
        }
        due("upward", x.move(0, 0, 0, 1, 4), 0);
        dueRow(x, 0, markTold(0), markTold(0), sealTold(1), markTold(2), sealTold(3));
        due("downward", x.move(0, 2, 0, 0, 3), 0);
        dueRow(x, 0, sealTold(1), markTold(2), sealTold(3), markTold(2), sealTold(3));
    }

    private static void moveOfObjects() {
        SpanMover x = new SpanMover();
        x.row(4, 3);
        x.row(4, 3);
        x.row(0, 2);
        x.setThing(0, 0, 2);
        x.setThing(1, 2, 2);
        due("move", x.move(0, 0, 1, 1, 2), 0);
        dueRow(x, 1, -1, 2, -1);
        x.set(2, 1, 50);
        due("the OBJECT itself", x.deep(1, 1, 1), 50);
        due("none FITS all", x.row(6, 2), 3);
        due("none FITS all", x.row(5, 2), 4);
        x.setThing(3, 0, x.seal(1));
        x.setThing(4, 0, x.seal(2));
        x.setThing(4, 1, x.mark(2));
        due("none to KIND 6", x.move(0, 1, 3, 0, 2), 0);
        dueRow(x, 3, -1, -1);
        due("none to KIND 5", x.move(1, 0, 4, 1, 1), 0);
        dueRow(x, 4, sealTold(2), -1);
        due("a Seal from KIND 5 to 6", x.move(4, 0, 3, 1, 1), 0);
        due("a Seal from KIND 6 to 5", x.move(3, 1, 4, 1, 1), 0);
        dueRow(x, 4, sealTold(2), sealTold(2));
        x.clear(2);
        due("an OBJECT in no place", x.move(0, 0, 1, 0, 1), 0);
        due("deep", x.deep(1, 0, 1), 50);
    }

    private static void moveRefusalsInOrder() {
        SpanMover x = new SpanMover();
        for (int kind = 0; kind <= 6; kind++) {
            x.row(kind, 3);
        }
        x.mark(1);
        x.seal(1);
        for (int place : NO_PLACES) {
            due("from no place", x.move(place, -1, 0, -1, -1), 1);
            due("to no place", x.move(7, -1, place, -1, -1), 1);
        }
        due("EMPTY", x.move(399, 0, 399, 0, 0), 1);
        for (int row = 0; row <= 6; row++) {
            due("from a thing", x.move(7, -1, row, -1, -1), 2);
            due("to a thing", x.move(row, -1, 8, -1, -1), 2);
        }
        due("a thing to itself", x.move(8, 0, 8, 0, 0), 2);
        for (int a = 0; a <= 6; a++) {
            for (int b = 0; b <= 6; b++) {
                boolean passes = a == b || a >= 4 && b >= 4;
                due("KIND " + a + " to " + b, x.move(a, 0, b, 0, 0), passes ? 0 : 3);
                due("KIND " + a + " to " + b, x.move(a, 0, b, 0, 4), passes ? 4 : 3);
            }
        }
        x.setThing(5, 0, 7);
        due("4 ahead of 5", x.move(5, 0, 6, 1, 3), 4);
        due("5", x.move(5, 0, 6, 0, 3), 5);
    }

    private static void moveRefusedBySpans() {
        for (int kind = 0; kind <= 6; kind++) {
            SpanMover x = new SpanMover();
            x.row(kind, 3);
            x.row(kind, 5);
            due("i -1", x.move(0, -1, 1, 0, 1), 4);
            due("j -1", x.move(0, 0, 1, -1, 1), 4);
            due("n -1", x.move(0, 1, 1, 1, -1), 4);
            due("i -1, n 0", x.move(0, -1, 1, 0, 0), 4);
            due("j -1, n 0", x.move(0, 0, 1, -1, 0), 4);
            due("a's end", x.move(0, 1, 1, 0, 3), 4);
            due("b's end", x.move(1, 0, 0, 1, 3), 4);
            due("a's end, n 0", x.move(0, 4, 1, 0, 0), 4);
            due("b's end, n 0", x.move(0, 0, 1, 6, 0), 4);
            due("both ends, n 0", x.move(0, 3, 1, 5, 0), 0);
            due("up to a's end", x.move(0, 0, 1, 0, 3), 0);
            due("up to both ends", x.move(0, 0, 1, 2, 3), 0);
            due("i + n wraps", x.move(0, 1, 1, 0, MAX), 4);
            due("i + n wraps", x.move(0, MAX, 1, 0, 1), 4);
            due("i + n wraps", x.move(0, MAX, 1, 0, MAX), 4);
            due("j + n wraps", x.move(0, 0, 1, MAX, 3), 4);
            due("MIN", x.move(0, MIN, 1, 0, 1), 4);
            due("MIN", x.move(0, 0, 1, MIN, 1), 4);
            due("MIN", x.move(0, 0, 1, 0, MIN), 4);
            due("MIN and MIN", x.move(0, MIN, 1, 0, MIN), 4);
            due("MIN and MAX", x.move(0, MIN, 1, MIN, MAX), 4);
        }
    }

    private static void moveThatStops() {
        SpanMover x = new SpanMover();
        x.row(5, 5);
        x.row(6, 5);
        int seal = x.seal(1);
        int old = x.seal(9);
        x.setThing(0, 0, seal);
        x.setThing(0, 2, x.mark(5));
        x.setThing(0, 3, seal);
        for (int i = 0; i < 5; i++) {
            x.setThing(1, i, old);
        }
        due("move", x.move(0, 0, 1, 1, 4), 5);
        due("moved", x.moved(), 2);
        dueRow(x, 1, sealTold(9), sealTold(1), -1, sealTold(9), sealTold(9));
        dueRow(x, 0, sealTold(1), -1, markTold(5), sealTold(1), -1);
        due("at the first", x.move(0, 2, 1, 0, 3), 5);
        due("moved", x.moved(), 0);
        due("at the last", x.move(0, 1, 1, 3, 2), 5);
        due("moved", x.moved(), 1);
        dueRow(x, 1, sealTold(9), sealTold(1), -1, -1, sealTold(9));
        due("ahead of it", x.move(0, 0, 1, 0, 2), 0);
        due("behind it", x.move(0, 3, 1, 0, 2), 0);
        intsDontFitThings();
    }

    private static void intsDontFitThings() {
        SpanMover x = new SpanMover();
        x.row(4, 2);
        x.row(5, 2);
        x.row(6, 2);
        x.row(0, 1);
        x.setThing(0, 1, 3);
        x.setThing(1, 1, x.mark(4));
        x.setThing(2, 1, x.seal(5));
        due("ints to Marks", x.move(0, 0, 1, 0, 2), 5);
        due("moved", x.moved(), 1);
        due("ints to Seals", x.move(0, 1, 2, 0, 1), 5);
        due("moved", x.moved(), 0);
        due("Marks to ints", x.move(1, 1, 0, 0, 1), 5);
        due("Seals to ints", x.move(2, 0, 0, 0, 2), 5);
        due("moved", x.moved(), 1);
        dueRow(x, 0, -1, 1);
        dueRow(x, 1, -1, markTold(4));
        dueRow(x, 2, -1, sealTold(5));
    }

    private static void movedTells() {
        SpanMover x = new SpanMover();
        due("none yet", x.moved(), 0);
        x.row(0, 2000);
        x.row(1, 5);
        x.mark(1);
        x.move(0, 0, 0, 0, 2000);
        due("all", x.moved(), 2000);
        due("still", x.moved(), 2000);
        x.plan(0, 0, 0, 0, 3);
        due("planned is not done", x.moved(), 2000);
        x.run();
        due("by run", x.moved(), 3);
        x.run();
        due("run of nothing", x.moved(), 3);
        int[][] refused = {{9, 0, 0}, {2, 0, 1}, {0, 1, 2}, {0, 0, 2001}};
        for (int[] move : refused) {
            x.move(0, 0, 0, 0, 3);
            due("moved", x.moved(), 3);
            x.move(move[0], 0, move[1], 0, move[2]);
            due("refused", x.moved(), 0);
        }
        x.move(0, 0, 0, 0, 3);
        x.move(0, 0, 0, 0, 0);
        due("n 0", x.moved(), 0);
    }

    private static void planFillsTheList() {
        SpanMover x = new SpanMover();
        due("nothing is looked at", x.plan(MIN, MAX, -1, MIN, -9), 1);
        for (int k = 2; k <= 64; k++) {
            due("plan", x.plan(0, 0, 0, 0, 0), k);
            due("count(2)", x.count(2), k);
        }
        due("plan", x.plan(0, 0, 0, 0, 0), -1);
        due("plan", x.plan(0, 0, 0, 0, 0), -1);
        due("count(2)", x.count(2), 64);
        due("count(3)", x.count(3), 0);
        due("count(4)", x.count(4), 0);
        due("ended", x.ended(), 0);
        due("run", x.run(), 0);
        due("plan", x.plan(0, 0, 0, 0, 0), 1);
    }

    private static void runDoesTheList() {
        SpanMover x = new SpanMover();
        x.row(1, 65);
        x.set(0, 0, 7);
        for (int k = 0; k < 64; k++) {
            due("plan", x.plan(0, k, 0, k + 1, 1), k + 1);
        }
        due("the 65th", x.plan(0, 0, 0, 0, 66), -1);
        due("run", x.run(), 64);
        due("the last one in order", x.get(0, 64), 7);
        due("count(2)", x.count(2), 0);
        due("count(3)", x.count(3), 64);
        due("count(4)", x.count(4), 0);
        due("run of nothing", x.run(), 0);
        x.set(0, 0, 8);
        x.plan(0, 0, 0, 1, 1);
        x.plan(0, 1, 0, 2, 1);
        x.plan(0, 0, 0, 1, 65);
        x.plan(0, 2, 0, 3, 1);
        due("run", x.run(), 2);
        dueStart(x, 8, 8, 8, 7);
        due("count(2)", x.count(2), 0);
        due("count(3)", x.count(3), 66);
        due("count(4)", x.count(4), 1);
        due("ended", x.ended(), 4);
        due("moved", x.moved(), 0);
        due("what came behind is gone", x.run(), 0);
        dueStart(x, 8, 8, 8, 7);
        due("plan", x.plan(0, 2, 0, 3, 1), 1);
        due("run", x.run(), 1);
        dueStart(x, 8, 8, 8, 8);
    }

    private static void dueStart(SpanMover x, long... values) {
        for (int i = 0; i < values.length; i++) {
            due("get(0, " + i + ")", x.get(0, i), values[i]);
        }
    }

    private static void runUsesWhatWasPlanned() {
        SpanMover x = new SpanMover();
        x.row(0, 6);
        x.row(0, 6);
        x.row(0, 6);
        setAll(x, 1, 1, 2, 3, 4, 5, 6);
        due("plan", x.plan(1, 4, 2, 3, 2), 1);
        due("plan", x.plan(2, 3, 0, 1, 1), 2);
        dueRow(x, 2, 0, 0, 0, 0, 0, 0);
        due("run", x.run(), 2);
        dueRow(x, 2, 0, 0, 0, 5, 6, 0);
        dueRow(x, 0, 0, 5, 0, 0, 0, 0);
        dueRow(x, 1, 1, 2, 3, 4, 5, 6);
    }

    private static void runSeesWhatStandsThen() {
        SpanMover x = new SpanMover();
        x.plan(0, 0, 1, 0, 2);
        x.row(2, 2);
        x.row(2, 2);
        setAll(x, 0, 3, 4);
        due("run", x.run(), 1);
        dueRow(x, 1, 3, 4);
        x.plan(0, 0, 1, 0, 2);
        x.clear(0);
        due("run", x.run(), 0);
        due("ended", x.ended(), 1);
    }

    private static void endedTells() {
        SpanMover x = new SpanMover();
        due("none yet", x.ended(), 0);
        x.row(0, 2);
        x.row(5, 2);
        x.row(6, 2);
        x.setThing(1, 1, x.mark(1));
        int[][] moves = {{9, 0, 1, 1}, {3, 0, 1, 2}, {0, 1, 1, 3}, {0, 0, 3, 4}, {1, 2, 2, 5}};
        for (int[] move : moves) {
            x.move(move[0], 0, move[1], 0, move[2]);
            due("ended", x.ended(), move[3]);
            due("still", x.ended(), move[3]);
            x.plan(0, 0, 0, 0, 1);
            due("planned is not done", x.ended(), move[3]);
            due("run", x.run(), 1);
            due("by run, not refused", x.ended(), 0);
            x.plan(move[0], 0, move[1], 0, move[2]);
            due("run", x.run(), 0);
            due("by run", x.ended(), move[3]);
            x.run();
            due("run of nothing", x.ended(), move[3]);
            x.move(0, 0, 0, 0, 0);
            due("not refused", x.ended(), 0);
        }
    }

    private static void clearEmpties() {
        SpanMover x = new SpanMover();
        x.row(4, 1);
        x.row(0, 2);
        x.mark(1);
        x.set(1, 0, 6);
        x.setThing(0, 0, 1);
        due("lift", x.lift(0, 0), 3);
        due("clear", x.clear(1), 1);
        due("again", x.clear(1), 0);
        due("kindOf", x.kindOf(1), -1);
        due("stays an ELEMENT", x.deep(0, 0, 0), 6);
        due("stays in another place", x.get(3, 0), 6);
        due("clear a thing", x.clear(2), 1);
        due("clear a row of OBJECTS", x.clear(0), 1);
        due("places", x.count(0), 1);
        due("EMPTY", x.clear(399), 0);
        for (int place : NO_PLACES) {
            due("clear(" + place + ")", x.clear(place), 0);
        }
        due("the lowest EMPTY place", x.seal(1), 0);
    }

    private static void sameTells() {
        SpanMover x = new SpanMover();
        x.row(0, 2);
        x.row(0, 2);
        x.row(4, 1);
        x.row(5, 1);
        x.mark(1);
        x.mark(1);
        x.setThing(2, 0, 0);
        x.setThing(3, 0, 4);
        due("lift", x.lift(2, 0), 6);
        due("lift", x.lift(3, 0), 7);
        due("same row", x.same(0, 6), 1);
        due("same row", x.same(6, 0), 1);
        due("equal rows", x.same(0, 1), 0);
        due("same thing", x.same(4, 7), 1);
        due("equal things", x.same(4, 5), 0);
        due("unlike", x.same(0, 4), 0);
        due("one place", x.same(3, 3), 1);
        due("EMPTY", x.same(0, 9), -1);
        due("EMPTY", x.same(9, 0), -1);
        due("both EMPTY", x.same(9, 9), -1);
        for (int place : NO_PLACES) {
            due("same(0, " + place + ")", x.same(0, place), -1);
            due("same(" + place + ", 0)", x.same(place, 0), -1);
            due("same of no place", x.same(place, place), -1);
        }
    }

    private static void digestOfNumbers() {
        SpanMover x = new SpanMover();
        for (int kind = 0; kind <= 6; kind++) {
            x.row(kind, 0);
            due("of no ELEMENTS", x.digest(kind), kind + 1);
        }
        for (int kind = 0; kind <= 3; kind++) {
            int place = x.row(kind, 3);
            setAll(x, place, 5, -6, 300);
            long last = kind == 2 ? 44 : 300;
            long d = ((kind + 1) * 31L + 5) * 31 - 6;
            due("digest", x.digest(place), d * 31 + last);
        }
        int wide = x.row(1, 2);
        setAll(x, wide, Long.MAX_VALUE, Long.MIN_VALUE);
        due("it wraps", x.digest(wide), (62 + Long.MAX_VALUE) * 31 + Long.MIN_VALUE);
        due("EMPTY", x.digest(399), 0);
        for (int place : NO_PLACES) {
            due("digest(" + place + ")", x.digest(place), 0);
        }
    }

    private static void digestOfObjects() {
        SpanMover x = new SpanMover();
        x.row(4, 3);
        x.row(5, 3);
        x.row(6, 2);
        x.row(0, 2);
        setAll(x, 3, 4, -5);
        due("of none", x.digest(0), 5L * 29791);
        due("of none", x.digest(1), 6L * 29791);
        due("of none", x.digest(2), 7L * 961);
        x.setThing(0, 0, 3);
        x.setThing(0, 2, 3);
        long ints = 961 + 31 * 4 - 5;
        due("of ints", x.digest(3), ints);
        due("of rows", x.digest(0), (5 * 31 + ints) * 961 + ints);
        x.setThing(1, 1, x.mark(-1));
        x.setThing(1, 2, x.seal(7));
        due("of things", x.digest(1), (6L * 961 + markTold(-1)) * 31 + sealTold(7));
        due("a thing's VALUE has a sign", x.digest(4), 8 * 31 - 1);
        due("of a Seal", x.digest(5), 9 * 31 + 7);
        int none = x.row(0, 0);
        x.setThing(0, 1, none);
        due("a row of no ints is not none", x.digest(0), ((5 * 31 + ints) * 31 + 1) * 31 + ints);
    }

    private static void digestSeesEveryChange() {
        SpanMover x = new SpanMover();
        x.row(0, 2);
        x.row(4, 1);
        x.row(0, 2);
        x.setThing(1, 0, 0);
        due("at first", x.digest(0), 961);
        due("at first", x.digest(1), 5 * 31 + 961);
        x.set(0, 1, 3);
        due("after set", x.digest(0), 964);
        due("after set", x.digest(1), 5 * 31 + 964);
        x.set(2, 0, 2);
        x.move(2, 0, 0, 0, 1);
        due("after move", x.digest(1), 5 * 31 + 961 + 62 + 3);
        due("after move", x.digest(0), 961 + 62 + 3);
        x.lift(1, 0);
        x.set(3, 0, 0);
        due("after set elsewhere", x.digest(0), 964);
        x.plan(2, 0, 3, 1, 1);
        x.run();
        due("after run", x.digest(1), 5 * 31 + 961 + 2);
        x.set(0, 7, 1);
        due("after a refused set", x.digest(0), 961 + 2);
    }

    private static void digestOfOneRowManyTimes() {
        SpanMover x = new SpanMover();
        x.row(4, 2000);
        x.row(0, 2000);
        x.set(1, 1999, 1);
        x.setThing(0, 0, 1);
        for (int come = 1; come < 2000; come *= 2) {
            due("move", x.move(0, 0, 0, come, Math.min(come, 2000 - come)), 0);
        }
        long ints = 1;
        for (int k = 0; k < 2000; k++) {
            ints *= 31;
        }
        ints++;
        long rows = 5;
        for (int k = 0; k < 2000; k++) {
            rows = 31 * rows + ints;
        }
        for (int k = 0; k < 400; k++) {
            due("digest", x.digest(0), rows);
        }
    }

    private static void countTells() {
        SpanMover x = new SpanMover();
        x.row(1, 10);
        x.mark(2);
        x.row(5, 1);
        x.setThing(2, 0, 1);
        x.lift(2, 0);
        due("places", x.count(0), 4);
        due("STOCK", x.count(1), 60000 - 11 - 1 - 2);
        x.clear(0);
        due("places", x.count(0), 3);
        due("STOCK", x.count(1), 59986);
        x.plan(2, 0, 2, 0, 1);
        x.plan(9, 0, 2, 0, 1);
        x.plan(2, 0, 2, 0, 1);
        due("LIST", x.count(2), 3);
        x.run();
        due("LIST", x.count(2), 0);
        due("done", x.count(3), 1);
        due("refused", x.count(4), 1);
        x.move(2, 0, 2, 0, 0);
        x.move(2, 0, 2, 0, 2);
        x.move(1, 0, 2, 0, 2);
        due("done", x.count(3), 2);
        due("refused", x.count(4), 3);
        for (int what : new int[] {-1, 5, MIN, MAX}) {
            due("count(" + what + ")", x.count(what), -1);
        }
    }
}
