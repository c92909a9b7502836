/**
 * Each sentence of the document that names a boundary case (too small, too large, empty, full, a
 * wrap-around, a refused call) has a test of its own here, which is told by that sentence.
 */
public final class SpanMoverBoundaryTest {
    private static final int MIN = Integer.MIN_VALUE;
    private static final int MAX = Integer.MAX_VALUE;
    private static final int FIRST_STOCK = 60000;
    private static final int PLACES = 400;
    private static final int LONGEST = 2000;
    // The nearest to the places, and such as come to a place's number if bits or 400s are lost.
    private static final int[] NO_PLACES =
            {-1, -2, 400, 401, -400, 800, 256 * 256, 1 << 30, MIN, MIN + 1, MAX};

    private static String sentence = "";
    private static int tests = 0;
    private static int check = 0;
    private static int wrong = 0;

    public static void main(String[] args) {
        testTermsOfPlacesAndRows();
        testTermsOfObjectsAndStock();
        testTermsOfMove();
        testNewRowsAndThings();
        testAskingAndSetting();
        testReadingAndLifting();
        testMovesAndTheList();
        testTheRest();
        System.out.println(wrong == 0 ? tests + " sentences hold at their edges"
                : wrong + " answers are not as due");
        if (wrong != 0) {
            System.exit(1);
        }
    }

    private static void testTermsOfPlacesAndRows() {
        begin("An object is used for at most 512 calls");
        call512StillAnswers();
        begin("PLACES have the numbers 0 .. 399");
        firstAndLastPlace();
        begin("each one is EMPTY (all are at first)");
        allPlacesAreEmptyAtFirst();
        begin("Any other number stands for an EMPTY place: of NUMBERS");
        otherNumbersAmongRowsOfInts();
        begin("Any other number stands for an EMPTY place: of OBJECTS");
        otherNumbersAmongRowsOfRows();
        begin("A row has a LENGTH, 0 .. 2000");
        shortestAndLongestRow();
        begin("and so many ELEMENTS, from 0 on");
        firstAndLastElement();
        begin("At first a NUMBER is 0, an OBJECT none");
        elementsAtFirst();
    }

    private static void testTermsOfObjectsAndStock() {
        begin("A thing has a VALUE, an int, which stays");
        valueStays();
        begin("the same row of ints can be an ELEMENT of many rows (and often of one)");
        oneRowOfIntsEverywhere();
        begin("An OBJECT FITS a row of KIND 4, 5, 6 if ..; none FITS all three");
        whatFits();
        begin("A Seal is a Mark, too");
        aSealIsAMarkButAMarkNoSeal();
        begin("STOCK is 60000 at first");
        stockAtFirst();
        begin("A new row takes its LENGTH and 1 more from it, a new thing 1");
        whatStockGives();
        begin("it gets nothing back");
        stockGetsNothingBack();
    }

    private static void testTermsOfMove() {
        begin("as if all had been set aside first");
        overlapsOfNumbers();
        begin("as if all had been set aside first, of OBJECTS");
        overlapsOfObjects();
        begin("a and b may be one row, in two places, too");
        overlapsInTwoPlaces();
        begin("1 a or b is EMPTY");
        reason1();
        begin("2 in a or in b a thing stands");
        reason2();
        begin("3 NUMBERS of different KINDS, or one of NUMBERS, the other of OBJECTS");
        reason3();
        begin("4 i, j or n is below 0");
        reason4BelowZero();
        begin("4 i + n is above a's LENGTH, or j + n above b's");
        reason4AboveLength();
        begin("the exact sums");
        reason4ExactSums();
        begin("5 one of the ELEMENTS i to i + n - 1 doesn't FIT b's row");
        reason5LooksAtTheSpanAlone();
        begin("those ahead of the first such one have come to b by then, and stay");
        reason5AtEachElement();
        begin("With n 0 nothing is moved; i or j may be the LENGTH");
        nothingIsMovedWithN0();
        begin("1 to 4 hold for that, too");
        reasonsWithN0();
        begin("The LIST has at most 64 MOVES");
        listOf64();
    }

    private static void testNewRowsAndThings() {
        begin("SpanMover(): All places are EMPTY, the LIST is, too");
        newObject();
        begin("row: stands in the lowest EMPTY place: its number");
        rowInTheLowestEmptyPlace();
        begin("row: -1 if kind isn't 0 .. 6");
        rowOfNoKind();
        begin("row: -2 if n is above 2000");
        rowTooLong();
        begin("row: -2 if no place is EMPTY");
        rowWithoutPlace();
        begin("row: -2 if STOCK is below n + 1");
        rowWithoutStock();
        begin("row: else -3 if n is below 0");
        rowBelowZero();
        begin("row, mark, seal: no place is EMPTY and STOCK is 0");
        neitherPlaceNorStock();
        begin("mark: the lowest EMPTY place");
        thingInTheLowestEmptyPlace(false);
        begin("mark: -2 if none is EMPTY, or STOCK is 0");
        thingWithoutPlaceOrStock(false);
        begin("seal: Likewise");
        thingInTheLowestEmptyPlace(true);
        begin("seal: Likewise -2");
        thingWithoutPlaceOrStock(true);
    }

    private static void testAskingAndSetting() {
        begin("kindOf: -1 if it is EMPTY");
        kindOfEmpty();
        begin("length: -1 if it is EMPTY, -2 if a thing stands in it");
        lengthOfEmptyAndThings();
        begin("set: of ints the lowest bits");
        setInts();
        begin("set: longs, 64 bits, with a sign");
        setLongs();
        begin("set: of bytes the lowest bits");
        setBytes();
        begin("set: of doubles the double nearest to it");
        setDoublesNearest();
        begin("set: of two the one with an even last bit");
        setDoublesEven();
        begin("set: Refused by the first that holds");
        setRefusedByTheFirst();
        begin("set: 4 there is no ELEMENT i");
        setNoElement();
        begin("setThing: none if thing is -1");
        setThingNone();
        begin("setThing: 1 the place is EMPTY, or place thing is (and thing isn't -1)");
        setThingEmpty();
        begin("setThing: Refused by the first that holds, 2 to 5");
        setThingRefusedByTheFirst();
        begin("setThing: 4 there is no ELEMENT i");
        setThingNoElement();
    }

    private static void testReadingAndLifting() {
        begin("get: of doubles the long nearest to it");
        getDoubles();
        begin("get: -1 for none, the LENGTH of a row of ints");
        getNoneAndLengths();
        begin("get: KIND times 4294967296 and its VALUE, without a sign");
        getThings();
        begin("get: 0 if it is refused, which why() tells");
        getRefused();
        begin("deep: 0 if it is refused, by the first that holds");
        deepRefusedByTheFirst();
        begin("deep: 4 there is no ELEMENT i; 6 its row has no ELEMENT k");
        deepNoElement();
        begin("why: 0 if it wasn't, or there was none");
        whyOfNone();
        begin("why: How the latest get or deep was refused");
        whyOfTheLatest();
        begin("lift: the lowest EMPTY place");
        liftToTheLowestEmptyPlace();
        begin("lift: Refused by the first that holds");
        liftRefusedByTheFirst();
        begin("lift: -6 no place is EMPTY");
        liftWithoutPlace();
    }

    private static void testMovesAndTheList() {
        begin("moved: n of one that wasn't refused");
        movedOfOneNotRefused();
        begin("moved: of one refused by 5 those that came by then, of another one 0");
        movedOfOneRefused();
        begin("moved: 0 if there was none");
        movedOfNone();
        begin("plan: -1 if it has 64, and nothing comes");
        planIntoTheFullList();
        begin("plan: A MOVE comes to the end of the LIST");
        planLooksAtNothing();
        begin("run: in their order");
        runInOrder();
        begin("run: up to the first one that is refused");
        runUpToTheFirstRefused();
        begin("run: the LIST is empty then");
        runEmptiesTheList();
        begin("run: a MOVE refused by 5 leaves what came");
        runThatStopsInTheMidst();
        begin("ended: 0 if it wasn't, or there was none");
        endedOfNone();
        begin("ended: How the latest MOVE (by move or run) was refused");
        endedOfTheLatest();
    }

    private static void testTheRest() {
        begin("clear: 0 if it was EMPTY");
        clearOfEmpty();
        begin("clear: what stood in it stays where else it is");
        clearedStaysElsewhere();
        begin("same: -1 if one is EMPTY");
        sameOfEmpty();
        begin("same: 1 if the same row, or the same thing, else 0");
        sameNotEqual();
        begin("digest: 0 if the place is EMPTY");
        digestOfEmpty();
        begin("digest: worked out in longs that wrap");
        digestWraps();
        begin("digest: of none 0, and of a row of ints the digest of that");
        digestOfNoneAndRows();
        begin("digest: of a thing d becomes 31 * d and its VALUE");
        digestOfThings();
        begin("count: 0 places that aren't EMPTY");
        countOfPlaces();
        begin("count: 2 MOVES in the LIST");
        countOfTheList();
        begin("count: 3 MOVES that weren't refused, 4 those that were");
        countOfMoves();
        begin("count: else -1");
        countElse();
    }

    private static void begin(String words) {
        sentence = words;
        tests++;
        check = 0;
    }

    private static void due(String call, long got, long want) {
        check++;
        if (got != want) {
            wrong++;
            System.out.println("\"" + sentence + "\", check " + check + ": " + call
                    + " answered " + got + ", due is " + want);
        }
    }

    private static void dueElements(SpanMover x, int place, long... values) {
        due("length(" + place + ")", x.length(place), values.length);
        for (int i = 0; i < values.length; i++) {
            due("get(" + place + ", " + i + ")", x.get(place, i), values[i]);
        }
    }

    private static void setNumbers(SpanMover x, int place, long... values) {
        for (int i = 0; i < values.length; i++) {
            due("set(" + place + ", " + i + ")", x.set(place, i, values[i]), 0);
        }
    }

    /** In places 0 to 8 stands what has the KIND of that number; the rows have LENGTH n. */
    private static SpanMover oneOfEachKind(int n) {
        SpanMover x = new SpanMover();
        for (int kind = 0; kind <= 6; kind++) {
            x.row(kind, n);
        }
        x.mark(70);
        x.seal(80);
        return x;
    }

    private static SpanMover fullOfRows(int kind, int n) {
        SpanMover x = new SpanMover();
        for (int place = 0; place < PLACES; place++) {
            x.row(kind, n);
        }
        return x;
    }

    /** 30 rows stand in places 0 to 29. */
    private static SpanMover withStock(int left) {
        SpanMover x = new SpanMover();
        for (int place = 0; place < 29; place++) {
            x.row(place % 7, LONGEST);
        }
        x.row(0, 1971 - 1 - left);
        return x;
    }

    private static long told(int kind, int value) {
        return kind * 4294967296L + Integer.toUnsignedLong(value);
    }

    // The terms

    private static void call512StillAnswers() {
        SpanMover x = new SpanMover();
        x.row(0, 1);
        for (int call = 2; call < 512; call++) {
            x.move(0, 0, 0, 0, 1);
        }
        due("count(3)", x.count(3), 510);
        SpanMover refused = new SpanMover();
        for (int call = 1; call < 512; call++) {
            refused.move(0, 0, 0, 0, 1);
        }
        due("count(4)", refused.count(4), 511);
    }

    private static void firstAndLastPlace() {
        SpanMover x = fullOfRows(0, 1);
        due("kindOf(0)", x.kindOf(0), 0);
        due("kindOf(399)", x.kindOf(399), 0);
        due("set(399)", x.set(399, 0, 6), 0);
        due("get(399)", x.get(399, 0), 6);
        due("move to 0", x.move(399, 0, 0, 0, 1), 0);
        due("get(0)", x.get(0, 0), 6);
        due("digest(399)", x.digest(399), 37);
        due("same", x.same(0, 399), 0);
        due("clear(399)", x.clear(399), 1);
        due("row", x.row(4, 1), 399);
        due("length(399)", x.length(399), 1);
        due("setThing(399, 0, 0)", x.setThing(399, 0, 0), 0);
        due("deep(399)", x.deep(399, 0, 0), 6);
        due("clear(0)", x.clear(0), 1);
        due("lift(399)", x.lift(399, 0), 0);
        due("clear(398)", x.clear(398), 1);
        due("row", x.row(5, 1), 398);
        due("clear(399)", x.clear(399), 1);
        due("mark", x.mark(3), 399);
        due("setThing(398, 0, 399)", x.setThing(398, 0, 399), 0);
        due("clear(399)", x.clear(399), 1);
        due("lift", x.lift(398, 0), 399);
        due("kindOf(399)", x.kindOf(399), 7);
    }

    private static void allPlacesAreEmptyAtFirst() {
        SpanMover x = new SpanMover();
        for (int place = 0; place < PLACES; place++) {
            due("kindOf(" + place + ")", x.kindOf(place), -1);
        }
        SpanMover y = new SpanMover();
        for (int place = 0; place < PLACES; place++) {
            due("clear(" + place + ")", y.clear(place), 0);
        }
    }

    private static void otherNumbersAmongRowsOfInts() {
        for (int p : NO_PLACES) {
            SpanMover x = fullOfRows(0, 1);
            due("kindOf " + p, x.kindOf(p), -1);
            due("length " + p, x.length(p), -1);
            due("set " + p, x.set(p, 0, 5), 1);
            due("get(0, 0)", x.get(0, 0), 0);
            due("why", x.why(), 0);
            due("get " + p, x.get(p, 0), 0);
            due("why", x.why(), 1);
            due("move from " + p, x.move(p, 0, 0, 0, 1), 1);
            due("move to " + p, x.move(0, 0, p, 0, 1), 1);
            due("plan from " + p, x.plan(p, 0, 0, 0, 1), 1);
            due("run", x.run(), 0);
            due("ended", x.ended(), 1);
            due("plan to " + p, x.plan(0, 0, p, 0, 1), 1);
            due("run", x.run(), 0);
            due("ended", x.ended(), 1);
            due("clear " + p, x.clear(p), 0);
            due("places", x.count(0), PLACES);
            due("same " + p, x.same(p, 0), -1);
            due("same " + p, x.same(0, p), -1);
            due("same " + p, x.same(p, p), -1);
            due("digest " + p, x.digest(p), 0);
        }
    }

    private static void otherNumbersAmongRowsOfRows() {
        for (int p : NO_PLACES) {
            SpanMover x = fullOfRows(4, 1);
            x.clear(399);
            x.row(0, 1);
            due("setThing(0, 0, 399)", x.setThing(0, 0, 399), 0);
            due("setThing " + p, x.setThing(p, 0, 399), 1);
            due("setThing " + p + ", none", x.setThing(p, 0, -1), 1);
            if (p != -1) {
                due("setThing(0, 0, " + p + ")", x.setThing(0, 0, p), 1);
            }
            due("deep(0)", x.deep(0, 0, 0), 0);
            due("why", x.why(), 0);
            due("deep " + p, x.deep(p, 0, 0), 0);
            due("why", x.why(), 1);
            x.clear(200);
            due("lift " + p, x.lift(p, 0), -1);
            due("places", x.count(0), PLACES - 1);
        }
    }

    private static void shortestAndLongestRow() {
        for (int kind = 0; kind <= 6; kind++) {
            SpanMover x = new SpanMover();
            due("row(kind, 0)", x.row(kind, 0), 0);
            due("row(kind, 1)", x.row(kind, 1), 1);
            due("row(kind, 1999)", x.row(kind, 1999), 2);
            due("row(kind, 2000)", x.row(kind, 2000), 3);
            due("row(kind, 2001)", x.row(kind, 2001), -2);
            due("row(kind, -1)", x.row(kind, -1), -3);
            due("length(0)", x.length(0), 0);
            due("length(1)", x.length(1), 1);
            due("length(2)", x.length(2), 1999);
            due("length(3)", x.length(3), 2000);
            due("length(4)", x.length(4), -1);
        }
    }

    private static void firstAndLastElement() {
        int[] lengths = {0, 1, 2, LONGEST};
        for (int kind = 0; kind <= 6; kind++) {
            for (int n : lengths) {
                SpanMover x = new SpanMover();
                x.row(kind, n);
                dueElement(x, -1, false);
                dueElement(x, 0, n > 0);
                dueElement(x, n - 1, n > 0);
                dueElement(x, n, false);
                dueElement(x, MIN, false);
                dueElement(x, MAX, false);
            }
        }
    }

    private static void dueElement(SpanMover x, int i, boolean isThere) {
        boolean ofNumbers = x.kindOf(0) <= 3;
        due("get(0, " + i + ")", x.get(0, i), isThere && !ofNumbers ? -1 : 0);
        due("why", x.why(), isThere ? 0 : 4);
        due("set(0, " + i + ")", x.set(0, i, 0), ofNumbers ? isThere ? 0 : 4 : 3);
        due("setThing(0, " + i + ")", x.setThing(0, i, -1), ofNumbers ? 3 : isThere ? 0 : 4);
        due("lift(0, " + i + ")", x.lift(0, i), ofNumbers ? -3 : isThere ? -5 : -4);
        due("deep(0, " + i + ")", x.deep(0, i, 0), 0);
        due("why", x.why(), x.kindOf(0) != 4 ? 3 : isThere ? 5 : 4);
    }

    private static void elementsAtFirst() {
        for (int kind = 0; kind <= 6; kind++) {
            SpanMover x = new SpanMover();
            x.row(kind, 300);
            for (int i = 0; i < 300; i++) {
                due("get(0, " + i + ")", x.get(0, i), kind <= 3 ? 0 : -1);
            }
        }
        SpanMover x = new SpanMover();
        x.row(0, 2);
        setNumbers(x, 0, 5, 6);
        x.clear(0);
        due("a row where one stood", x.row(0, 2), 0);
        dueElements(x, 0, 0, 0);
    }

    private static void valueStays() {
        for (int value : new int[] {0, 1, -1, MIN, MAX}) {
            SpanMover x = new SpanMover();
            x.row(5, 2);
            x.mark(value);
            x.seal(value);
            x.setThing(0, 0, 1);
            x.setThing(0, 1, 2);
            due("set", x.set(1, 0, 99), 2);
            dueElements(x, 0, told(7, value), told(8, value));
            due("digest of the Mark", x.digest(1), 8 * 31 + (long) value);
            due("digest of the Seal", x.digest(2), 9 * 31 + (long) value);
            x.clear(1);
            due("lift", x.lift(0, 0), 1);
            due("digest of the Mark", x.digest(1), 8 * 31 + (long) value);
        }
    }

    private static void oneRowOfIntsEverywhere() {
        SpanMover x = new SpanMover();
        x.row(0, 1);
        x.row(4, 3);
        x.row(4, 1);
        for (int i = 0; i < 3; i++) {
            due("often in one", x.setThing(1, i, 0), 0);
        }
        due("in another", x.setThing(2, 0, 0), 0);
        due("lift", x.lift(1, 2), 3);
        due("lift", x.lift(2, 0), 4);
        for (int place : new int[] {0, 3, 4}) {
            due("set", x.set(place, 0, 10 + place), 0);
            for (int i = 0; i < 3; i++) {
                due("deep", x.deep(1, i, 0), 10 + place);
            }
            due("deep", x.deep(2, 0, 0), 10 + place);
            due("get", x.get(0, 0), 10 + place);
            due("get", x.get(3, 0), 10 + place);
            due("get", x.get(4, 0), 10 + place);
        }
    }

    private static void whatFits() {
        for (int kind = 4; kind <= 6; kind++) {
            SpanMover x = oneOfEachKind(1);
            for (int thing = 0; thing <= 8; thing++) {
                boolean fits = kind == 4 && thing == 0 || kind == 5 && thing == 7
                        || kind >= 5 && thing == 8;
                due("KIND " + thing + " to " + kind, x.setThing(kind, 0, thing), fits ? 0 : 5);
            }
            due("none", x.setThing(kind, 0, -1), 0);
            due("get", x.get(kind, 0), -1);
            for (int other = 4; other <= 6; other++) {
                due("none by move", x.move(kind, 0, other, 0, 1), 0);
            }
        }
    }

    private static void aSealIsAMarkButAMarkNoSeal() {
        SpanMover x = new SpanMover();
        x.row(5, 1);
        x.row(6, 1);
        x.mark(1);
        x.seal(2);
        due("a Seal among Seals", x.setThing(1, 0, 3), 0);
        due("a Seal to Marks", x.move(1, 0, 0, 0, 1), 0);
        due("it is a Seal still", x.get(0, 0), told(8, 2));
        due("a Seal among Marks to Seals", x.move(0, 0, 1, 0, 1), 0);
        due("a Mark among Marks", x.setThing(0, 0, 2), 0);
        due("a Mark to Seals", x.move(0, 0, 1, 0, 1), 5);
        due("a Mark among Seals", x.setThing(1, 0, 2), 5);
        due("what stood there", x.get(1, 0), told(8, 2));
    }

    private static void stockAtFirst() {
        due("STOCK", new SpanMover().count(1), FIRST_STOCK);
        SpanMover x = withStock(0);
        due("29 rows of 2000 and one of 1970", x.count(0), 30);
        due("STOCK", x.count(1), 0);
    }

    private static void whatStockGives() {
        for (int kind = 0; kind <= 6; kind++) {
            SpanMover x = new SpanMover();
            x.row(kind, 0);
            due("LENGTH 0", x.count(1), FIRST_STOCK - 1);
            x.row(kind, 1);
            due("LENGTH 1", x.count(1), FIRST_STOCK - 3);
            x.row(kind, LONGEST);
            due("LENGTH 2000", x.count(1), FIRST_STOCK - 2004);
        }
        SpanMover x = new SpanMover();
        x.mark(MAX);
        due("a Mark", x.count(1), FIRST_STOCK - 1);
        x.seal(MIN);
        due("a Seal", x.count(1), FIRST_STOCK - 2);
    }

    private static void stockGetsNothingBack() {
        SpanMover x = new SpanMover();
        x.row(5, 9);
        x.setThing(0, 0, x.mark(1));
        due("STOCK", x.count(1), FIRST_STOCK - 11);
        due("lift takes nothing", x.lift(0, 0), 2);
        due("STOCK", x.count(1), FIRST_STOCK - 11);
        for (int place = 0; place <= 2; place++) {
            due("clear", x.clear(place), 1);
        }
        due("STOCK", x.count(1), FIRST_STOCK - 11);
        SpanMover y = withStock(0);
        for (int place = 0; place < 30; place++) {
            due("clear", y.clear(place), 1);
        }
        due("STOCK", y.count(1), 0);
        due("row", y.row(0, 0), -2);
    }

    private static void overlapsOfNumbers() {
        for (int kind = 0; kind <= 3; kind++) {
            SpanMover x = new SpanMover();
            x.row(kind, 5);
            setNumbers(x, 0, 1, 2, 3, 4, 5);
            due("up by 1", x.move(0, 0, 0, 1, 4), 0);
            dueElements(x, 0, 1, 1, 2, 3, 4);
            due("down by 1", x.move(0, 1, 0, 0, 4), 0);
            dueElements(x, 0, 1, 2, 3, 4, 4);
            due("up by 3", x.move(0, 0, 0, 3, 2), 0);
            dueElements(x, 0, 1, 2, 3, 1, 2);
            due("onto itself", x.move(0, 0, 0, 0, 5), 0);
            dueElements(x, 0, 1, 2, 3, 1, 2);
        }
        longestOverlap();
    }

    private static void longestOverlap() {
        SpanMover x = new SpanMover();
        x.row(1, LONGEST);
        setNumbers(x, 0, 7, 8);
        x.set(0, 1999, 9);
        due("up", x.move(0, 0, 0, 1, 1999), 0);
        due("get", x.get(0, 1), 7);
        due("get", x.get(0, 2), 8);
        due("get", x.get(0, 3), 0);
        due("get", x.get(0, 1999), 0);
        x.set(0, 1999, 9);
        due("down", x.move(0, 1, 0, 0, 1999), 0);
        due("get", x.get(0, 0), 7);
        due("get", x.get(0, 1), 8);
        due("get", x.get(0, 1997), 0);
        due("get", x.get(0, 1998), 9);
        due("get", x.get(0, 1999), 9);
    }

    private static void overlapsOfObjects() {
        SpanMover x = new SpanMover();
        x.row(6, 4);
        for (int i = 0; i < 4; i++) {
            x.setThing(0, i, x.seal(i));
        }
        due("up by 1", x.move(0, 0, 0, 1, 3), 0);
        dueElements(x, 0, told(8, 0), told(8, 0), told(8, 1), told(8, 2));
        due("down by 1", x.move(0, 1, 0, 0, 3), 0);
        dueElements(x, 0, told(8, 0), told(8, 1), told(8, 2), told(8, 2));
        SpanMover y = new SpanMover();
        y.row(4, 3);
        for (int i = 0; i < 3; i++) {
            y.setThing(0, i, y.row(0, i));
        }
        due("up by 1", y.move(0, 0, 0, 1, 2), 0);
        dueElements(y, 0, 0, 0, 1);
        due("down by 1", y.move(0, 1, 0, 0, 2), 0);
        dueElements(y, 0, 0, 1, 1);
    }

    private static void overlapsInTwoPlaces() {
        SpanMover x = new SpanMover();
        x.row(0, 4);
        x.row(4, 1);
        x.setThing(1, 0, 0);
        due("lift", x.lift(1, 0), 2);
        setNumbers(x, 0, 1, 2, 3, 4);
        due("up", x.move(0, 0, 2, 1, 3), 0);
        dueElements(x, 0, 1, 1, 2, 3);
        due("down", x.move(2, 1, 0, 0, 3), 0);
        dueElements(x, 2, 1, 2, 3, 3);
        due("beyond its end", x.move(0, 0, 2, 1, 4), 4);
        dueElements(x, 0, 1, 2, 3, 3);
    }

    /** A MOVE by move, and the same one by plan and run, must answer and tell alike. */
    private static void dueMove(SpanMover x, int from, int i, int to, int j, int n, int reason) {
        String told = "move(" + from + ", " + i + ", " + to + ", " + j + ", " + n + ")";
        due(told, x.move(from, i, to, j, n), reason);
        due("ended of " + told, x.ended(), reason);
        due("plan", x.plan(from, i, to, j, n), 1);
        due("run of " + told, x.run(), reason == 0 ? 1 : 0);
        due("ended of " + told + " by run", x.ended(), reason);
    }

    private static void reason1() {
        SpanMover x = oneOfEachKind(2);
        for (int other = 0; other <= 8; other++) {
            dueMove(x, 9, -1, other, -1, -1, 1);
            dueMove(x, other, MAX, 9, MAX, MAX, 1);
        }
        dueMove(x, 9, 0, 9, 0, 0, 1);
        dueMove(x, -1, 0, 0, 0, 1, 1);
        dueMove(x, 0, 0, 400, 0, 1, 1);
        x.clear(0);
        dueMove(x, 0, 0, 7, 0, 0, 1);
    }

    private static void reason2() {
        SpanMover x = oneOfEachKind(2);
        for (int thing = 7; thing <= 8; thing++) {
            for (int other = 0; other <= 8; other++) {
                dueMove(x, thing, -1, other, -1, -1, 2);
                dueMove(x, other, 0, thing, MAX, 1, 2);
            }
        }
    }

    private static void reason3() {
        for (int a = 0; a <= 6; a++) {
            SpanMover x = oneOfEachKind(2);
            for (int b = 0; b <= 6; b++) {
                boolean passes = a == b || a >= 4 && b >= 4;
                dueMove(x, a, 0, b, 0, 2, passes ? 0 : 3);
                dueMove(x, a, -1, b, -1, -1, passes ? 4 : 3);
                dueMove(x, a, 0, b, 0, 3, passes ? 4 : 3);
            }
        }
    }

    private static void reason4BelowZero() {
        for (int kind = 0; kind <= 6; kind++) {
            SpanMover x = new SpanMover();
            x.row(kind, 3);
            x.row(kind, 3);
            for (int below : new int[] {-1, -3, MIN, MIN + 1}) {
                dueMove(x, 0, below, 1, 0, 1, 4);
                dueMove(x, 0, 0, 1, below, 1, 4);
                dueMove(x, 0, 1, 1, 1, below, 4);
                dueMove(x, 0, below, 1, 0, 0, 4);
                dueMove(x, 0, 0, 1, below, 0, 4);
                // i + n and j + n are then within the rows, or wrap to such a number.
                dueMove(x, 0, below, 1, below, 3, 4);
                dueMove(x, 0, below, 1, below, MAX, 4);
                dueMove(x, 0, below, 1, below, below, 4);
            }
        }
    }

    private static void reason4AboveLength() {
        for (int kind = 0; kind <= 6; kind++) {
            SpanMover x = new SpanMover();
            x.row(kind, 3);
            x.row(kind, 5);
            dueMove(x, 0, 0, 1, 0, 3, 0);
            dueMove(x, 0, 0, 1, 2, 3, 0);
            dueMove(x, 1, 2, 0, 0, 3, 0);
            dueMove(x, 0, 2, 1, 4, 1, 0);
            dueMove(x, 0, 0, 1, 0, 4, 4);
            dueMove(x, 0, 1, 1, 0, 3, 4);
            dueMove(x, 0, 3, 1, 0, 1, 4);
            dueMove(x, 1, 0, 0, 0, 4, 4);
            dueMove(x, 1, 0, 0, 1, 3, 4);
            dueMove(x, 1, 0, 0, 3, 1, 4);
            dueMove(x, 0, 0, 1, 3, 3, 4);
            x.row(kind, LONGEST);
            dueMove(x, 2, 0, 2, 0, LONGEST, 0);
            dueMove(x, 2, 1, 2, 0, LONGEST, 4);
            dueMove(x, 2, 0, 2, 1, LONGEST, 4);
            dueMove(x, 2, 0, 2, 0, LONGEST + 1, 4);
        }
    }

    private static void reason4ExactSums() {
        for (int kind = 0; kind <= 6; kind++) {
            SpanMover x = new SpanMover();
            x.row(kind, 3);
            x.row(kind, 3);
            int[][] sums = {{1, MAX}, {MAX, 1}, {MAX, MAX}, {2, MAX - 1}, {MAX - 1, 2}, {3, MAX},
                {1 << 30, 1 << 30}};
            for (int[] sum : sums) {
                dueMove(x, 0, sum[0], 1, 0, sum[1], 4);
                dueMove(x, 0, 0, 1, sum[0], sum[1], 4);
                dueMove(x, 0, sum[0], 1, sum[0], sum[1], 4);
            }
        }
    }

    /** Row 0 of 4 Marks: a Seal, a Seal, a Mark, a Seal; row 1 of Seals holds 4 other ones. */
    private static SpanMover aMarkAmongSeals() {
        SpanMover x = new SpanMover();
        x.row(5, 4);
        x.row(6, 4);
        for (int i = 0; i < 4; i++) {
            x.setThing(0, i, i == 2 ? x.mark(12) : x.seal(10 + i));
            x.setThing(1, i, x.seal(20 + i));
        }
        return x;
    }

    private static void reason5LooksAtTheSpanAlone() {
        SpanMover x = aMarkAmongSeals();
        due("ahead of the Mark", x.move(0, 0, 1, 0, 2), 0);
        due("behind the Mark", x.move(0, 3, 1, 0, 1), 0);
        due("the Mark last", x.move(0, 0, 1, 0, 3), 5);
        due("the Mark first", x.move(0, 2, 1, 0, 2), 5);
        due("the Mark alone", x.move(0, 2, 1, 0, 1), 5);
        due("4 comes first, of a", x.move(0, 2, 1, 0, 3), 4);
        due("4 comes first, of b", x.move(0, 2, 1, 3, 2), 4);
    }

    private static void reason5AtEachElement() {
        for (int i = 0; i <= 2; i++) {
            for (int j = 0; j <= i + 1; j++) {
                SpanMover x = aMarkAmongSeals();
                int n = Math.min(4 - i, 4 - j);
                due("move from " + i + " to " + j, x.move(0, i, 1, j, n), 5);
                int came = 2 - i;
                due("moved", x.moved(), came);
                for (int k = 0; k < 4; k++) {
                    boolean isCome = k >= j && k < j + came;
                    due("row 1, " + k, x.get(1, k), told(8, isCome ? 10 + i + k - j : 20 + k));
                }
                dueElements(x, 0, told(8, 10), told(8, 11), told(7, 12), told(8, 13));
            }
        }
    }

    private static void nothingIsMovedWithN0() {
        for (int kind = 0; kind <= 6; kind++) {
            SpanMover x = new SpanMover();
            x.row(kind, 2);
            x.row(kind, 3);
            x.row(kind, 0);
            dueMove(x, 0, 2, 1, 3, 0, 0);
            dueMove(x, 0, 3, 1, 0, 0, 4);
            dueMove(x, 0, 0, 1, 4, 0, 4);
            dueMove(x, 0, 0, 1, 3, 0, 0);
            dueMove(x, 0, 2, 1, 0, 0, 0);
            due("moved", x.moved(), 0);
            dueMove(x, 2, 0, 2, 0, 0, 0);
            dueMove(x, 2, 1, 2, 0, 0, 4);
            dueMove(x, 2, 0, 2, 1, 0, 4);
            dueMove(x, 2, 0, 2, 0, 1, 4);
        }
        SpanMover x = aMarkAmongSeals();
        long before = x.digest(1);
        due("at an ELEMENT that doesn't FIT", x.move(0, 2, 1, 0, 0), 0);
        due("digest", x.digest(1), before);
    }

    private static void reasonsWithN0() {
        SpanMover x = oneOfEachKind(2);
        dueMove(x, 9, 0, 0, 0, 0, 1);
        dueMove(x, 0, 0, 9, 0, 0, 1);
        dueMove(x, 7, 0, 0, 0, 0, 2);
        dueMove(x, 0, 0, 8, 0, 0, 2);
        dueMove(x, 0, 0, 1, 0, 0, 3);
        dueMove(x, 4, 0, 0, 0, 0, 3);
        dueMove(x, 0, 0, 5, 0, 0, 3);
        dueMove(x, 0, -1, 0, 0, 0, 4);
        dueMove(x, 0, 0, 0, -1, 0, 4);
        dueMove(x, 0, 3, 0, 0, 0, 4);
        dueMove(x, 0, 0, 0, 3, 0, 4);
        dueMove(x, 4, 2, 6, 2, 0, 0);
    }

    private static void listOf64() {
        SpanMover x = new SpanMover();
        for (int k = 1; k <= 64; k++) {
            due("plan", x.plan(0, 0, 0, 0, 0), k);
        }
        due("the 65th", x.plan(0, 0, 0, 0, 0), -1);
        due("count(2)", x.count(2), 64);
    }

    // Promises 1 to 4

    private static void newObject() {
        SpanMover used = oneOfEachKind(2);
        used.plan(0, 0, 0, 0, 1);
        used.move(9, 0, 0, 0, 1);
        used.get(9, 0);
        SpanMover x = new SpanMover();
        due("places", x.count(0), 0);
        due("STOCK", x.count(1), FIRST_STOCK);
        due("LIST", x.count(2), 0);
        due("done", x.count(3), 0);
        due("refused", x.count(4), 0);
        due("run", x.run(), 0);
        due("why", x.why(), 0);
        due("moved", x.moved(), 0);
        due("ended", x.ended(), 0);
        due("the other one's place", used.kindOf(0), 0);
        due("the other one's LIST", used.count(2), 1);
    }

    private static void rowInTheLowestEmptyPlace() {
        SpanMover x = fullOfRows(1, 0);
        for (int place : new int[] {399, 0, 17}) {
            x.clear(place);
        }
        due("row", x.row(2, 3), 0);
        due("row", x.row(3, 4), 17);
        due("row", x.row(4, 5), 399);
        due("row", x.row(5, 6), -2);
        due("kindOf(0)", x.kindOf(0), 2);
        due("kindOf(17)", x.kindOf(17), 3);
        due("kindOf(399)", x.kindOf(399), 4);
        due("kindOf(1)", x.kindOf(1), 1);
    }

    private static void rowOfNoKind() {
        SpanMover x = new SpanMover();
        for (int kind : new int[] {-1, 7, 8, 9, MIN, MAX, 256, 1 << 16}) {
            due("row(" + kind + ", 1)", x.row(kind, 1), -1);
            due("ahead of -2", x.row(kind, 2001), -1);
            due("ahead of -3", x.row(kind, -1), -1);
        }
        due("KIND 0", x.row(0, 1), 0);
        due("KIND 6", x.row(6, 1), 1);
        SpanMover full = fullOfRows(0, 0);
        due("no place", full.row(7, 1), -1);
        due("no STOCK", withStock(0).row(-1, 1), -1);
    }

    private static void rowTooLong() {
        for (int kind = 0; kind <= 6; kind++) {
            SpanMover x = new SpanMover();
            for (int n : new int[] {2001, 2002, 59999, 60000, 65536, MAX - 1, MAX}) {
                due("row(kind, " + n + ")", x.row(kind, n), -2);
            }
            due("places", x.count(0), 0);
            due("STOCK", x.count(1), FIRST_STOCK);
            due("row(kind, 2000)", x.row(kind, 2000), 0);
        }
    }

    private static void rowWithoutPlace() {
        SpanMover x = fullOfRows(0, 0);
        due("row(0, 0)", x.row(0, 0), -2);
        due("row(6, 2000)", x.row(6, 2000), -2);
        due("ahead of -3", x.row(0, -1), -2);
        due("ahead of -3", x.row(0, MIN), -2);
        due("STOCK", x.count(1), FIRST_STOCK - PLACES);
        x.clear(250);
        due("row(6, 2000)", x.row(6, 2000), 250);
        due("row(6, 0)", x.row(6, 0), -2);
    }

    private static void rowWithoutStock() {
        for (int left : new int[] {1, 2, 100, 1970}) {
            SpanMover x = withStock(left);
            due("STOCK", x.count(1), left);
            due("n + 1 is STOCK and 1", x.row(0, left), -2);
            due("STOCK", x.count(1), left);
            due("n + 1 is STOCK", x.row(0, left - 1), 30);
            due("STOCK", x.count(1), 0);
        }
        SpanMover x = withStock(0);
        for (int kind = 0; kind <= 6; kind++) {
            due("row(kind, 0)", x.row(kind, 0), -2);
        }
        due("places", x.count(0), 30);
    }

    private static void rowBelowZero() {
        int[] below = {-1, -2, MIN, MIN + 1};
        SpanMover x = new SpanMover();
        SpanMover poor = withStock(0);
        for (int n : below) {
            for (int kind = 0; kind <= 6; kind++) {
                due("row(kind, " + n + ")", x.row(kind, n), -3);
                due("with STOCK 0", poor.row(kind, n), -3);
            }
        }
        due("places", x.count(0), 0);
        due("STOCK", x.count(1), FIRST_STOCK);
        due("STOCK", poor.count(1), 0);
        due("the next row", x.row(0, 0), 0);
    }

    private static void neitherPlaceNorStock() {
        SpanMover x = withStock(370);
        for (int place = 30; place < PLACES; place++) {
            x.mark(place);
        }
        due("places", x.count(0), PLACES);
        due("STOCK", x.count(1), 0);
        due("row(0, 0)", x.row(0, 0), -2);
        due("row(0, -1)", x.row(0, -1), -2);
        due("row(7, -1)", x.row(7, -1), -1);
        due("mark", x.mark(0), -2);
        due("seal", x.seal(0), -2);
        x.clear(399);
        due("a place: row(0, 0)", x.row(0, 0), -2);
        due("a place: row(0, -1)", x.row(0, -1), -3);
        due("a place: mark", x.mark(0), -2);
        due("a place: seal", x.seal(0), -2);
        due("kindOf(399)", x.kindOf(399), -1);
        due("STOCK", x.count(1), 0);
    }

    private static int thing(SpanMover x, boolean isSeal, int v) {
        return isSeal ? x.seal(v) : x.mark(v);
    }

    private static void thingInTheLowestEmptyPlace(boolean isSeal) {
        SpanMover x = new SpanMover();
        for (int place = 0; place < PLACES; place++) {
            due("thing", thing(x, isSeal, place), place);
        }
        for (int place : new int[] {399, 0, 17}) {
            x.clear(place);
        }
        due("thing", thing(x, isSeal, 1), 0);
        due("thing", thing(x, isSeal, 1), 17);
        due("thing", thing(x, isSeal, 1), 399);
        due("thing", thing(x, isSeal, 1), -2);
        due("kindOf(0)", x.kindOf(0), isSeal ? 8 : 7);
        due("kindOf(399)", x.kindOf(399), isSeal ? 8 : 7);
    }

    private static void thingWithoutPlaceOrStock(boolean isSeal) {
        SpanMover full = fullOfRows(0, 0);
        due("no place", thing(full, isSeal, 0), -2);
        due("no place", thing(full, isSeal, -1), -2);
        due("STOCK", full.count(1), FIRST_STOCK - PLACES);
        SpanMover x = withStock(1);
        due("STOCK 1", thing(x, isSeal, MIN), 30);
        due("STOCK", x.count(1), 0);
        due("STOCK 0", thing(x, isSeal, MAX), -2);
        due("places", x.count(0), 31);
        due("STOCK", x.count(1), 0);
        x.clear(0);
        due("a place, but STOCK 0", thing(x, isSeal, 1), -2);
        due("kindOf(0)", x.kindOf(0), -1);
    }

    // Promises 5 to 8

    private static void kindOfEmpty() {
        SpanMover x = oneOfEachKind(0);
        for (int place = 0; place <= 8; place++) {
            due("kindOf(" + place + ")", x.kindOf(place), place);
            due("clear", x.clear(place), 1);
            due("kindOf(" + place + ")", x.kindOf(place), -1);
        }
        due("kindOf(9)", x.kindOf(9), -1);
        due("kindOf(-1)", x.kindOf(-1), -1);
        due("kindOf(400)", x.kindOf(400), -1);
    }

    private static void lengthOfEmptyAndThings() {
        for (int n : new int[] {0, 1, LONGEST}) {
            SpanMover x = oneOfEachKind(n);
            for (int place = 0; place <= 6; place++) {
                due("length(" + place + ")", x.length(place), n);
            }
            due("a Mark", x.length(7), -2);
            due("a Seal", x.length(8), -2);
            due("EMPTY", x.length(9), -1);
            x.clear(7);
            due("EMPTY", x.length(7), -1);
            due("length(-1)", x.length(-1), -1);
            due("length(400)", x.length(400), -1);
        }
    }

    /** Each pair: what is set, and what get tells of it then. */
    private static void dueNarrowed(int kind, long[][] pairs) {
        SpanMover x = new SpanMover();
        x.row(kind, 3);
        for (long[] pair : pairs) {
            due("set " + pair[0], x.set(0, 1, pair[0]), 0);
            due("get of " + pair[0], x.get(0, 1), pair[1]);
            due("digest of " + pair[0], x.digest(0), 31 * ((kind + 1) * 961L + pair[1]));
        }
        dueElements(x, 0, 0, pairs[pairs.length - 1][1], 0);
    }

    private static void setInts() {
        dueNarrowed(0, new long[][] {
            {0, 0}, {MAX, MAX}, {MIN, MIN}, {MAX + 1L, MIN}, {MIN - 1L, MAX},
            {4294967295L, -1}, {4294967296L, 0}, {4294967297L, 1}, {-4294967296L, 0},
            {-4294967297L, -1}, {Long.MAX_VALUE, -1}, {Long.MIN_VALUE, 0}, {128, 128}});
    }

    private static void setLongs() {
        dueNarrowed(1, new long[][] {
            {0, 0}, {MAX + 1L, MAX + 1L}, {MIN - 1L, MIN - 1L}, {9007199254740993L, 9007199254740993L},
            {Long.MAX_VALUE, Long.MAX_VALUE}, {Long.MIN_VALUE, Long.MIN_VALUE}, {-1, -1}});
    }

    private static void setBytes() {
        dueNarrowed(2, new long[][] {
            {0, 0}, {127, 127}, {128, -128}, {-128, -128}, {-129, 127}, {255, -1}, {256, 0},
            {257, 1}, {-256, 0}, {-257, -1}, {MAX, -1}, {MIN, 0}, {4294967296L + 5, 5},
            {Long.MAX_VALUE, -1}, {Long.MIN_VALUE, 0}});
    }

    private static void setDoublesNearest() {
        long exact = 1L << 53;
        dueNarrowed(3, new long[][] {
            {0, 0}, {-1, -1}, {MAX + 1L, MAX + 1L}, {exact - 1, exact - 1}, {exact, exact},
            {1 - exact, 1 - exact}, {-exact, -exact}, {exact + 2, exact + 2},
            {2 * exact + 1, 2 * exact}, {2 * exact + 3, 2 * exact + 4},
            {-2 * exact - 1, -2 * exact}, {-2 * exact - 3, -2 * exact - 4},
            {Long.MIN_VALUE, Long.MIN_VALUE}, {Long.MIN_VALUE + 1, Long.MIN_VALUE},
            {Long.MIN_VALUE + 511, Long.MIN_VALUE}, {Long.MIN_VALUE + 513, Long.MIN_VALUE + 1024}});
    }

    private static void setDoublesEven() {
        long exact = 1L << 53;
        dueNarrowed(3, new long[][] {
            {exact + 1, exact}, {exact + 3, exact + 4}, {exact + 5, exact + 4},
            {-exact - 1, -exact}, {-exact - 3, -exact - 4}, {-exact - 5, -exact - 4},
            {2 * exact + 2, 2 * exact}, {2 * exact + 6, 2 * exact + 8},
            {(1L << 62) + 512, 1L << 62}, {(1L << 62) + 1536, (1L << 62) + 2048},
            {Long.MIN_VALUE + 512, Long.MIN_VALUE}, {Long.MIN_VALUE + 1536, Long.MIN_VALUE + 2048}});
    }

    private static void setRefusedByTheFirst() {
        SpanMover x = oneOfEachKind(2);
        due("1", x.set(9, -1, 5), 1);
        due("2, a Mark", x.set(7, -1, 5), 2);
        due("2, a Seal", x.set(8, 2, 5), 2);
        for (int place = 4; place <= 6; place++) {
            due("3", x.set(place, -1, 5), 3);
            due("3", x.set(place, 2, 5), 3);
            due("3", x.set(place, 0, 5), 3);
            dueElements(x, place, -1, -1);
        }
        for (int place = 0; place <= 3; place++) {
            due("4", x.set(place, 2, 5), 4);
            due("0", x.set(place, 1, 5), 0);
            dueElements(x, place, 0, 5);
        }
    }

    private static void setNoElement() {
        for (int kind = 0; kind <= 3; kind++) {
            SpanMover x = new SpanMover();
            x.row(kind, LONGEST);
            x.row(kind, 0);
            for (int i : new int[] {-1, LONGEST, LONGEST + 1, -LONGEST, MIN, MAX, 1 << 16}) {
                due("set(0, " + i + ")", x.set(0, i, 1), 4);
                due("set(1, " + i + ")", x.set(1, i, 1), 4);
            }
            due("set(1, 0)", x.set(1, 0, 1), 4);
            due("set(0, 0)", x.set(0, 0, 1), 0);
            due("set(0, 1999)", x.set(0, 1999, 1), 0);
            due("get(0, 0)", x.get(0, 0), 1);
            due("get(0, 1)", x.get(0, 1), 0);
            due("get(0, 1999)", x.get(0, 1999), 1);
        }
    }

    private static void setThingNone() {
        SpanMover x = oneOfEachKind(1);
        int[] fitting = {0, 7, 8};
        for (int kind = 4; kind <= 6; kind++) {
            due("none onto none", x.setThing(kind, 0, -1), 0);
            due("get", x.get(kind, 0), -1);
            due("setThing", x.setThing(kind, 0, fitting[kind - 4]), 0);
            due("none", x.setThing(kind, 0, -1), 0);
            due("get", x.get(kind, 0), -1);
            due("lift", x.lift(kind, 0), -5);
        }
    }

    private static void setThingEmpty() {
        SpanMover x = oneOfEachKind(1);
        for (int thing : new int[] {9, 399, 400, -2, MIN, MAX}) {
            for (int place = 0; place <= 9; place++) {
                due("thing " + thing, x.setThing(place, 0, thing), 1);
            }
            due("thing " + thing + ", no ELEMENT", x.setThing(4, -1, thing), 1);
        }
        for (int thing = -1; thing <= 8; thing++) {
            due("EMPTY place", x.setThing(9, -1, thing), 1);
            due("no place", x.setThing(-1, 0, thing), 1);
        }
        for (int place = 4; place <= 6; place++) {
            due("get", x.get(place, 0), -1);
        }
    }

    private static void setThingRefusedByTheFirst() {
        SpanMover x = oneOfEachKind(1);
        for (int thing = -1; thing <= 8; thing++) {
            due("2, a Mark", x.setThing(7, -1, thing), 2);
            due("2, a Seal", x.setThing(8, 0, thing), 2);
            for (int place = 0; place <= 3; place++) {
                due("3", x.setThing(place, -1, thing), 3);
                due("3", x.setThing(place, 0, thing), 3);
            }
            for (int place = 4; place <= 6; place++) {
                due("4", x.setThing(place, 1, thing), 4);
            }
        }
        due("0", x.setThing(4, 0, 0), 0);
        due("0", x.setThing(5, 0, 7), 0);
        due("0", x.setThing(6, 0, 8), 0);
        due("5, itself", x.setThing(4, 0, 4), 5);
        due("5, longs", x.setThing(4, 0, 1), 5);
        due("5, a row of Marks", x.setThing(5, 0, 5), 5);
        due("5, a Mark", x.setThing(6, 0, 7), 5);
        due("what stood there", x.get(4, 0), 1);
        due("what stood there", x.get(5, 0), told(7, 70));
        due("what stood there", x.get(6, 0), told(8, 80));
    }

    private static void setThingNoElement() {
        int[] fitting = {0, 7, 8};
        for (int kind = 4; kind <= 6; kind++) {
            SpanMover x = oneOfEachKind(LONGEST);
            int thing = fitting[kind - 4];
            due("LENGTH 0", x.row(kind, 0), 9);
            due("no ELEMENT at all", x.setThing(9, 0, thing), 4);
            for (int i : new int[] {-1, LONGEST, LONGEST + 1, MIN, MAX, 1 << 16}) {
                due("setThing " + i, x.setThing(kind, i, thing), 4);
                due("none " + i, x.setThing(kind, i, -1), 4);
            }
            due("the first", x.setThing(kind, 0, thing), 0);
            due("the last", x.setThing(kind, 1999, thing), 0);
            due("get", x.get(kind, 1), -1);
            due("get", x.get(kind, 1998), -1);
            due("same as the last", x.same(x.lift(kind, 1999), thing), 1);
            due("same as the first", x.same(x.lift(kind, 0), thing), 1);
        }
    }

    // Promises 9 to 12

    private static void getDoubles() {
        dueNarrowed(3, new long[][] {
            // 2^63 is no long: the long nearest to it is the largest one.
            {Long.MAX_VALUE, Long.MAX_VALUE}, {Long.MAX_VALUE - 511, Long.MAX_VALUE},
            {Long.MAX_VALUE - 512, Long.MAX_VALUE - 1023}, {Long.MAX_VALUE - 1023, Long.MAX_VALUE - 1023},
            {Long.MIN_VALUE, Long.MIN_VALUE}, {0, 0}, {-1, -1}, {1, 1}});
        SpanMover x = new SpanMover();
        x.row(3, 2);
        x.set(0, 0, Long.MAX_VALUE);
        due("move", x.move(0, 0, 0, 1, 1), 0);
        due("get of the largest, moved", x.get(0, 1), Long.MAX_VALUE);
    }

    private static void getNoneAndLengths() {
        SpanMover x = new SpanMover();
        x.row(4, 3);
        x.row(0, 0);
        x.row(0, LONGEST);
        x.setThing(0, 0, 1);
        x.setThing(0, 2, 2);
        dueElements(x, 0, 0, -1, LONGEST);
        due("why of none", x.get(0, 1) + x.why(), -1);
        x.setThing(0, 2, -1);
        dueElements(x, 0, 0, -1, -1);
    }

    private static void getThings() {
        int[] values = {0, 1, -1, MIN, MAX};
        long[] ofMarks = {30064771072L, 30064771073L, 34359738367L, 32212254720L, 32212254719L};
        long[] ofSeals = {34359738368L, 34359738369L, 38654705663L, 36507222016L, 36507222015L};
        SpanMover x = new SpanMover();
        x.row(5, 5);
        x.row(5, 5);
        x.row(6, 5);
        for (int i = 0; i < 5; i++) {
            x.setThing(0, i, x.mark(values[i]));
            int seal = x.seal(values[i]);
            x.setThing(1, i, seal);
            x.setThing(2, i, seal);
        }
        dueElements(x, 0, ofMarks);
        dueElements(x, 1, ofSeals);
        dueElements(x, 2, ofSeals);
    }

    private static void dueGetRefused(SpanMover x, int place, int i, int reason) {
        due("get(" + place + ", " + i + ")", x.get(place, i), 0);
        due("why", x.why(), reason);
    }

    private static void getRefused() {
        SpanMover x = oneOfEachKind(1);
        x.set(0, 0, 5);
        for (int i : new int[] {-1, 0, 1, MIN, MAX}) {
            dueGetRefused(x, 9, i, 1);
            dueGetRefused(x, -1, i, 1);
            dueGetRefused(x, 400, i, 1);
            dueGetRefused(x, 7, i, 2);
            dueGetRefused(x, 8, i, 2);
            for (int place = 0; i != 0 && place <= 6; place++) {
                dueGetRefused(x, place, i, 4);
            }
        }
        due("get", x.get(0, 0), 5);
        due("why", x.why(), 0);
        SpanMover none = oneOfEachKind(0);
        for (int place = 0; place <= 6; place++) {
            dueGetRefused(none, place, 0, 4);
        }
    }

    private static void dueDeepRefused(SpanMover x, int place, int i, int k, int reason) {
        due("deep(" + place + ", " + i + ", " + k + ")", x.deep(place, i, k), 0);
        due("why", x.why(), reason);
    }

    private static void deepRefusedByTheFirst() {
        SpanMover x = oneOfEachKind(2);
        setNumbers(x, 0, 5, 6);
        x.setThing(4, 0, 0);
        x.setThing(5, 0, 7);
        x.setThing(6, 0, 8);
        dueDeepRefused(x, 9, -1, -1, 1);
        dueDeepRefused(x, 400, 0, 0, 1);
        dueDeepRefused(x, 7, -1, -1, 2);
        dueDeepRefused(x, 8, 0, 0, 2);
        for (int place = 0; place <= 6; place++) {
            if (place != 4) {
                dueDeepRefused(x, place, -1, -1, 3);
                dueDeepRefused(x, place, 0, 0, 3);
            }
        }
        dueDeepRefused(x, 4, 2, -1, 4);
        dueDeepRefused(x, 4, 1, -1, 5);
        dueDeepRefused(x, 4, 1, 0, 5);
        dueDeepRefused(x, 4, 0, -1, 6);
        due("deep", x.deep(4, 0, 1), 6);
        due("why", x.why(), 0);
    }

    private static void deepNoElement() {
        SpanMover x = new SpanMover();
        x.row(4, LONGEST);
        x.row(0, LONGEST);
        x.row(0, 0);
        x.set(1, 0, 11);
        x.set(1, 1999, -12);
        x.setThing(0, 0, 1);
        x.setThing(0, 1999, 1);
        x.setThing(0, 1, 2);
        for (int no : new int[] {-1, LONGEST, LONGEST + 1, MIN, MAX, 1 << 16}) {
            dueDeepRefused(x, 0, no, 0, 4);
            dueDeepRefused(x, 0, 0, no, 6);
        }
        dueDeepRefused(x, 0, 1, 0, 6);
        for (int i : new int[] {0, 1999}) {
            due("the first", x.deep(0, i, 0), 11);
            due("the last", x.deep(0, i, 1999), -12);
            due("why", x.why(), 0);
        }
        due("LENGTH 0", x.row(4, 0), 3);
        dueDeepRefused(x, 3, 0, 0, 4);
    }

    private static void whyOfNone() {
        SpanMover x = new SpanMover();
        due("none", x.why(), 0);
        x.kindOf(9);
        x.length(9);
        x.set(9, 0, 1);
        x.setThing(9, 0, 1);
        x.lift(9, 0);
        x.move(9, 0, 9, 0, 1);
        x.plan(9, 0, 9, 0, 1);
        x.run();
        x.clear(9);
        x.same(9, 9);
        x.digest(9);
        x.count(9);
        due("none", x.why(), 0);
        x.row(0, 1);
        x.get(0, 0);
        due("not refused", x.why(), 0);
    }

    private static void whyOfTheLatest() {
        SpanMover x = oneOfEachKind(1);
        x.setThing(4, 0, 0);
        x.get(9, 0);
        due("get refused", x.why(), 1);
        due("asked again", x.why(), 1);
        x.set(0, 0, 1);
        x.move(0, 0, 0, 0, 1);
        x.lift(4, 0);
        due("others don't change it", x.why(), 1);
        x.deep(4, 0, 1);
        due("deep refused", x.why(), 6);
        x.get(7, 0);
        due("get refused", x.why(), 2);
        x.deep(4, 0, 0);
        due("deep not refused", x.why(), 0);
        x.deep(0, 0, 0);
        due("deep refused", x.why(), 3);
        x.get(0, 0);
        due("get not refused", x.why(), 0);
    }

    private static void liftToTheLowestEmptyPlace() {
        SpanMover x = fullOfRows(0, 0);
        for (int place : new int[] {399, 0, 17}) {
            x.clear(place);
        }
        x.row(5, 1);
        x.mark(4);
        x.setThing(0, 0, 17);
        x.clear(17);
        due("lift", x.lift(0, 0), 17);
        due("lift", x.lift(0, 0), 399);
        due("lift", x.lift(0, 0), -6);
        due("same", x.same(17, 399), 1);
        x.clear(0);
        due("what was lifted stays", x.kindOf(399), 7);
    }

    private static void liftRefusedByTheFirst() {
        SpanMover x = oneOfEachKind(1);
        due("-1", x.lift(9, -1), -1);
        due("-1", x.lift(-1, 0), -1);
        due("-1", x.lift(400, 0), -1);
        due("-2", x.lift(7, -1), -2);
        due("-2", x.lift(8, 0), -2);
        for (int place = 0; place <= 3; place++) {
            due("-3", x.lift(place, -1), -3);
            due("-3", x.lift(place, 0), -3);
        }
        for (int place = 4; place <= 6; place++) {
            for (int i : new int[] {-1, 1, MIN, MAX}) {
                due("-4", x.lift(place, i), -4);
            }
            due("-5", x.lift(place, 0), -5);
        }
        due("places", x.count(0), 9);
    }

    private static void liftWithoutPlace() {
        SpanMover x = oneOfEachKind(1);
        x.setThing(4, 0, 0);
        x.setThing(5, 0, 7);
        for (int place = 9; place < PLACES; place++) {
            x.mark(1);
        }
        due("-6", x.lift(4, 0), -6);
        due("-6", x.lift(5, 0), -6);
        due("-5 first", x.lift(6, 0), -5);
        due("-4 first", x.lift(4, 1), -4);
        due("-3 first", x.lift(0, 0), -3);
        due("-2 first", x.lift(7, 0), -2);
        due("-1 first", x.lift(400, 0), -1);
        x.clear(399);
        due("the last place", x.lift(4, 0), 399);
        due("-6", x.lift(4, 0), -6);
        SpanMover poor = withStock(0);
        poor.setThing(4, 0, 0);
        due("STOCK 0 is enough", poor.lift(4, 0), 30);
        due("STOCK", poor.count(1), 0);
    }

    // Promises 13 to 17

    private static void movedOfOneNotRefused() {
        for (int kind = 0; kind <= 6; kind++) {
            SpanMover x = new SpanMover();
            x.row(kind, LONGEST);
            for (int n : new int[] {0, 1, 1999, LONGEST, 0}) {
                due("move", x.move(0, 0, 0, 0, n), 0);
                due("moved", x.moved(), n);
                due("asked again", x.moved(), n);
            }
            x.plan(0, 0, 0, 0, LONGEST);
            due("planned only", x.moved(), 0);
            x.run();
            due("by run", x.moved(), LONGEST);
            x.run();
            due("by a run of none", x.moved(), LONGEST);
        }
    }

    private static void movedOfOneRefused() {
        SpanMover x = aMarkAmongSeals();
        int row = x.row(0, 4);
        int[][] refused = {{399, 0, 0, 1}, {2, 0, 0, 2}, {row, 0, 0, 3}, {0, 0, 5, 4}};
        for (int[] m : refused) {
            due("move", x.move(0, 0, 0, 0, 4), 0);
            due("moved", x.moved(), 4);
            due("refused", x.move(m[0], 0, 1, m[1], m[2]), m[3]);
            due("moved", x.moved(), 0);
        }
        for (int i = 0; i <= 2; i++) {
            due("refused by 5", x.move(0, i, 1, 0, 4 - i), 5);
            due("moved", x.moved(), 2 - i);
        }
    }

    private static void movedOfNone() {
        SpanMover x = new SpanMover();
        due("moved", x.moved(), 0);
        x.row(0, 3);
        x.plan(0, 0, 0, 0, 3);
        due("planned only", x.moved(), 0);
        SpanMover y = new SpanMover();
        y.run();
        due("a run of none", y.moved(), 0);
    }

    private static void planIntoTheFullList() {
        SpanMover x = new SpanMover();
        x.row(0, 65);
        x.set(0, 0, 3);
        for (int k = 0; k < 64; k++) {
            due("plan", x.plan(0, k, 0, k + 1, 1), k + 1);
        }
        due("count(2)", x.count(2), 64);
        for (int k = 0; k < 3; k++) {
            due("plan", x.plan(0, 64, 0, 0, 2), -1);
            due("count(2)", x.count(2), 64);
        }
        due("run", x.run(), 64);
        due("ended", x.ended(), 0);
        due("the 64th was done", x.get(0, 64), 3);
        due("refused", x.count(4), 0);
        due("the LIST is empty", x.plan(0, 0, 0, 0, 1), 1);
    }

    private static void planLooksAtNothing() {
        SpanMover x = new SpanMover();
        int[] odd = {-1, 400, MIN, MAX, 0};
        int planned = 0;
        for (int p : odd) {
            planned++;
            due("plan", x.plan(p, p, p, p, p), planned);
        }
        due("done", x.count(3), 0);
        due("refused", x.count(4), 0);
        due("ended", x.ended(), 0);
        due("run", x.run(), 0);
        due("refused", x.count(4), 1);
        x.plan(0, 0, 1, 0, 1);
        x.row(0, 1);
        x.row(0, 1);
        x.set(0, 0, 5);
        due("what stands there by then", x.run(), 1);
        due("get", x.get(1, 0), 5);
    }

    private static void runInOrder() {
        SpanMover x = new SpanMover();
        x.row(0, 3);
        setNumbers(x, 0, 1, 2, 3);
        x.plan(0, 0, 0, 1, 1);
        x.plan(0, 1, 0, 2, 1);
        due("run", x.run(), 2);
        dueElements(x, 0, 1, 1, 1);
        setNumbers(x, 0, 1, 2, 3);
        x.plan(0, 1, 0, 2, 1);
        x.plan(0, 0, 0, 1, 1);
        due("run", x.run(), 2);
        dueElements(x, 0, 1, 1, 2);
    }

    private static void runUpToTheFirstRefused() {
        for (int at = 0; at <= 3; at++) {
            SpanMover x = new SpanMover();
            x.row(0, 4);
            x.set(0, 0, 5);
            for (int k = 0; k < 3; k++) {
                x.plan(k == at ? 9 : 0, k, 0, k + 1, 1);
            }
            due("run", x.run(), at);
            for (int i = 1; i <= 3; i++) {
                due("get", x.get(0, i), i <= at ? 5 : 0);
            }
            due("done", x.count(3), at);
            due("refused", x.count(4), at == 3 ? 0 : 1);
            due("ended", x.ended(), at == 3 ? 0 : 1);
            due("moved", x.moved(), at == 3 ? 1 : 0);
        }
        refusedAtTheEndOfAFullList();
    }

    private static void refusedAtTheEndOfAFullList() {
        SpanMover x = new SpanMover();
        x.row(0, 1);
        for (int k = 0; k < 64; k++) {
            x.plan(0, 0, 0, 0, k == 63 ? 2 : 1);
        }
        due("run", x.run(), 63);
        due("ended", x.ended(), 4);
        due("done", x.count(3), 63);
        due("refused", x.count(4), 1);
    }

    private static void runEmptiesTheList() {
        SpanMover x = new SpanMover();
        x.row(0, 2);
        due("an empty LIST", x.run(), 0);
        x.plan(0, 0, 0, 1, 1);
        due("run", x.run(), 1);
        due("LIST", x.count(2), 0);
        due("run", x.run(), 0);
        x.plan(9, 0, 0, 1, 1);
        x.plan(0, 0, 0, 1, 1);
        due("refused at once", x.run(), 0);
        due("LIST", x.count(2), 0);
        due("what came behind isn't done", x.run(), 0);
        due("done", x.count(3), 1);
        due("refused", x.count(4), 1);
        due("a run of none leaves ended", x.ended(), 1);
        for (int k = 1; k <= 64; k++) {
            due("plan", x.plan(0, 0, 0, 1, 1), k);
        }
        due("run", x.run(), 64);
        due("LIST", x.count(2), 0);
    }

    private static void runThatStopsInTheMidst() {
        SpanMover x = aMarkAmongSeals();
        x.plan(0, 3, 1, 3, 1);
        x.plan(0, 1, 1, 0, 3);
        x.plan(0, 0, 1, 2, 1);
        due("run", x.run(), 1);
        due("ended", x.ended(), 5);
        due("moved", x.moved(), 1);
        dueElements(x, 1, told(8, 11), told(8, 21), told(8, 22), told(8, 13));
        due("done", x.count(3), 1);
        due("refused", x.count(4), 1);
        due("LIST", x.count(2), 0);
    }

    private static void endedOfNone() {
        SpanMover x = new SpanMover();
        due("none", x.ended(), 0);
        x.plan(9, 0, 9, 0, 0);
        due("planned only", x.ended(), 0);
        x.set(9, 0, 1);
        x.get(9, 0);
        x.lift(9, 0);
        due("no MOVE", x.ended(), 0);
        SpanMover y = new SpanMover();
        y.run();
        due("a run of none", y.ended(), 0);
    }

    private static void endedOfTheLatest() {
        SpanMover x = aMarkAmongSeals();
        int row = x.row(0, 4);
        int[][] moves = {{399, 1, 1}, {2, 1, 2}, {row, 1, 3}, {0, 5, 4}, {0, 4, 5}, {0, 2, 0}};
        for (int[] first : moves) {
            for (int[] then : moves) {
                x.move(first[0], 0, 1, 0, first[1]);
                due("ended", x.ended(), first[2]);
                x.plan(then[0], 0, 1, 0, then[1]);
                due("planned only", x.ended(), first[2]);
                x.run();
                due("by run", x.ended(), then[2]);
                due("asked again", x.ended(), then[2]);
            }
        }
    }

    // Promises 18 to 21

    private static void clearOfEmpty() {
        SpanMover x = oneOfEachKind(1);
        for (int place = 0; place <= 8; place++) {
            due("clear", x.clear(place), 1);
            due("again", x.clear(place), 0);
        }
        for (int place : NO_PLACES) {
            due("clear(" + place + ")", x.clear(place), 0);
        }
        due("clear(399)", x.clear(399), 0);
        due("places", x.count(0), 0);
    }

    private static void clearedStaysElsewhere() {
        SpanMover x = new SpanMover();
        x.row(4, 2);
        x.row(0, 1);
        x.row(5, 1);
        x.seal(6);
        x.set(1, 0, 5);
        x.setThing(0, 0, 1);
        x.setThing(0, 1, 1);
        x.setThing(2, 0, 3);
        due("lift", x.lift(0, 0), 4);
        due("clear", x.clear(1), 1);
        due("clear", x.clear(3), 1);
        due("deep", x.deep(0, 0, 0), 5);
        due("deep", x.deep(0, 1, 0), 5);
        due("get", x.get(4, 0), 5);
        due("get", x.get(2, 0), told(8, 6));
        due("clear", x.clear(4), 1);
        due("in no place, set by none", x.deep(0, 1, 0), 5);
        due("lift", x.lift(0, 1), 1);
        due("set", x.set(1, 0, 7), 0);
        due("deep", x.deep(0, 0, 0), 7);
    }

    private static void sameOfEmpty() {
        SpanMover x = oneOfEachKind(1);
        for (int place = 0; place <= 8; place++) {
            due("same", x.same(place, 9), -1);
            due("same", x.same(9, place), -1);
        }
        due("both EMPTY", x.same(9, 9), -1);
        due("both EMPTY", x.same(9, 10), -1);
        for (int place : NO_PLACES) {
            due("same", x.same(place, 0), -1);
            due("same", x.same(0, place), -1);
            due("same", x.same(place, place), -1);
        }
    }

    private static void sameNotEqual() {
        SpanMover x = oneOfEachKind(0);
        for (int kind = 0; kind <= 6; kind++) {
            due("another row", x.row(kind, 0), 9 + kind);
        }
        due("another Mark", x.mark(70), 16);
        due("another Seal", x.seal(80), 17);
        for (int place = 0; place <= 8; place++) {
            due("one place", x.same(place, place), 1);
            due("equal", x.same(place, 9 + place), 0);
            due("equal", x.same(9 + place, place), 0);
            due("unlike", x.same(place, (place + 1) % 9), 0);
        }
        due("a Mark and a Seal of one VALUE", x.same(x.mark(1), x.seal(1)), 0);
    }

    private static void digestOfEmpty() {
        SpanMover x = oneOfEachKind(0);
        for (int place = 0; place <= 6; place++) {
            due("a row of LENGTH 0", x.digest(place), place + 1);
            x.clear(place);
            due("EMPTY", x.digest(place), 0);
        }
        due("EMPTY", x.digest(399), 0);
        for (int place : NO_PLACES) {
            due("digest(" + place + ")", x.digest(place), 0);
        }
    }

    private static void digestWraps() {
        SpanMover x = new SpanMover();
        x.row(1, 2);
        setNumbers(x, 0, Long.MAX_VALUE, Long.MAX_VALUE);
        due("digest", x.digest(0), (2 * 961L + 32 * Long.MAX_VALUE));
        setNumbers(x, 0, Long.MIN_VALUE, Long.MIN_VALUE);
        due("digest", x.digest(0), 1922);
        for (int kind = 0; kind <= 6; kind++) {
            int place = x.row(kind, LONGEST);
            long d = kind + 1;
            for (int i = 0; i < LONGEST; i++) {
                d *= 31;
            }
            due("of 2000", x.digest(place), d);
        }
    }

    private static void digestOfNoneAndRows() {
        SpanMover x = new SpanMover();
        x.row(4, 3);
        x.row(0, 0);
        x.row(0, 1);
        x.set(2, 0, -1);
        due("none", x.digest(0), 5 * 29791);
        x.setThing(0, 0, 1);
        due("a row of no ints", x.digest(0), (5 * 31 + 1) * 961);
        x.setThing(0, 2, 2);
        due("a row of one", x.digest(0), (5 * 31 + 1) * 961 + 30);
        x.set(2, 0, MIN);
        due("it is set", x.digest(0), (5 * 31 + 1) * 961L + 31 + MIN);
        due("by itself", x.digest(2), 31L + MIN);
        x.row(0, 1);
        x.move(3, 0, 2, 0, 1);
        due("it is moved to", x.digest(0), (5 * 31 + 1) * 961 + 31);
        due("by itself", x.digest(2), 31);
        SpanMover y = new SpanMover();
        y.row(5, 1);
        y.row(6, 1);
        due("no Mark", y.digest(0), 6 * 31);
        due("no Seal", y.digest(1), 7 * 31);
    }

    private static void digestOfThings() {
        for (int value : new int[] {0, 1, -1, MIN, MAX}) {
            SpanMover x = new SpanMover();
            x.mark(value);
            x.seal(value);
            due("a Mark", x.digest(0), 248L + value);
            due("a Seal", x.digest(1), 279L + value);
            x.row(5, 2);
            x.setThing(2, 0, 0);
            x.setThing(2, 1, 1);
            long as = 6 * 961 + 31 * told(7, value) + told(8, value);
            due("as ELEMENTS, what get tells", x.digest(2), as);
        }
    }

    private static void countOfPlaces() {
        SpanMover x = new SpanMover();
        due("none", x.count(0), 0);
        for (int place = 0; place < PLACES; place++) {
            x.mark(place);
        }
        due("all", x.count(0), 400);
        x.mark(1);
        due("all", x.count(0), 400);
        x.clear(399);
        due("all but the last", x.count(0), 399);
        x.clear(0);
        due("nor the first", x.count(0), 398);
        x.clear(0);
        due("cleared again", x.count(0), 398);
    }

    private static void countOfTheList() {
        SpanMover x = new SpanMover();
        due("none", x.count(2), 0);
        for (int k = 1; k <= 64; k++) {
            x.plan(9, 9, 9, 9, 9);
            due("LIST", x.count(2), k);
        }
        x.plan(9, 9, 9, 9, 9);
        due("full", x.count(2), 64);
        x.move(9, 9, 9, 9, 9);
        due("move leaves it", x.count(2), 64);
        x.run();
        due("empty", x.count(2), 0);
    }

    private static void countOfMoves() {
        SpanMover x = aMarkAmongSeals();
        int row = x.row(0, 4);
        x.move(0, 0, 1, 0, 0);
        due("n 0 is done", x.count(3), 1);
        due("refused", x.count(4), 0);
        int[][] refused = {{399, 1}, {2, 1}, {row, 1}, {0, 5}, {0, 4}};
        for (int k = 0; k < 5; k++) {
            x.move(refused[k][0], 0, 1, 0, refused[k][1]);
            due("done", x.count(3), 1);
            due("refused", x.count(4), k + 1);
        }
        for (int k = 0; k < 65; k++) {
            x.plan(0, 0, 1, 0, 1);
        }
        due("planned only", x.count(3), 1);
        due("a plan refused is no MOVE", x.count(4), 5);
        x.run();
        due("by run", x.count(3), 65);
        due("by run", x.count(4), 5);
        x.set(9, 0, 1);
        x.get(9, 0);
        x.lift(9, 0);
        x.run();
        due("no MOVES", x.count(3), 65);
        due("no MOVES", x.count(4), 5);
    }

    private static void countElse() {
        SpanMover x = oneOfEachKind(2);
        x.plan(0, 0, 0, 0, 1);
        for (int what : new int[] {-1, -2, 5, 6, 256, 1 << 16, MIN, MAX}) {
            due("count(" + what + ")", x.count(what), -1);
        }
    }
}
