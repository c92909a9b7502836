/**
 * A shelf of rows of unlike kinds and of single things, between which spans are moved.
 * The promises that the comments name by number are those of the document.
 */
public final class SpanMover {
    private static final int PLACES = 400;
    private static final int LONGEST_ROW = 2000;
    private static final int FIRST_STOCK = 60000;
    private static final int LONGEST_LIST = 64;
    private static final int NUMBERS_OF_A_MOVE = 5;

    private static final int INTS = 0;
    private static final int BYTES = 2;
    private static final int DOUBLES = 3;
    private static final int INT_ROWS = 4;
    private static final int MARKS = 5;
    private static final int SEALS = 6;
    private static final int MARK = 7;
    private static final int SEAL = 8;

    private static final int DONE = 0;
    private static final int EMPTY_PLACE = 1;
    private static final int A_THING = 2;
    private static final int WRONG_KIND = 3;
    private static final int NO_ELEMENT = 4;
    private static final int NO_FIT = 5;
    private static final int IS_NONE = 5;
    private static final int NO_INNER_ELEMENT = 6;
    private static final int ALL_PLACES_TAKEN = 6;

    private static final int NO_SUCH_KIND = -1;
    private static final int NO_ROOM = -2;
    private static final int NEGATIVE_LENGTH = -3;

    private static final int NO_PLACE = -1;
    private static final long ONE_KIND = 4294967296L;
    private static final long LOW_BITS = 4294967295L;

    /** What can stand in a place. */
    private abstract static class Item {
        final int kind;

        Item(int kind) {
            this.kind = kind;
        }
    }

    /** A Mark or a Seal; the KIND tells which. */
    private static final class Thing extends Item {
        final int value;

        Thing(int kind, int value) {
            super(kind);
            this.value = value;
        }
    }

    private abstract static class Row extends Item {
        final int size;

        Row(int kind, int size) {
            super(kind);
            this.size = size;
        }

        final boolean hasElement(int i) {
            return i >= 0 && i < size;
        }

        final boolean hasSpan(int i, int n) {
            return i >= 0 && n >= 0 && (long) i + n <= size;
        }
    }

    /**
     * A row of NUMBERS of any KIND. All are held as the longs that get tells of them: a double
     * comes only from a long and is seen only as the long nearest to it, so nothing is lost.
     */
    private static final class NumberRow extends Row {
        private final long[] numbers;
        // One row of ints can be ELEMENT of a row 2000 times: its digest is worked out once.
        private boolean digestKnown;
        private long knownDigest;

        NumberRow(int kind, int size) {
            super(kind, size);
            this.numbers = new long[size];
        }

        long numberAt(int i) {
            return numbers[i];
        }

        void put(int i, long v) {
            numbers[i] = narrowed(v);
            digestKnown = false;
        }

        void takeSpan(int j, NumberRow source, int i, int n) {
            System.arraycopy(source.numbers, i, numbers, j, n);
            digestKnown = false;
        }

        long digestOfNumbers() {
            if (!digestKnown) {
                long d = kind + 1;
                for (long number : numbers) {
                    d = 31 * d + number;
                }
                knownDigest = d;
                digestKnown = true;
            }
            return knownDigest;
        }

        private long narrowed(long v) {
            switch (kind) {
                case INTS:
                    return (int) v;
                case BYTES:
                    return (byte) v;
                case DOUBLES:
                    return (long) (double) v;
                default:
                    return v;
            }
        }
    }

    /** A row of OBJECTS; null is none. */
    private static final class ObjectRow extends Row {
        private final Item[] objects;

        ObjectRow(int kind, int size) {
            super(kind, size);
            this.objects = new Item[size];
        }

        Item objectAt(int i) {
            return objects[i];
        }

        void putObject(int i, Item object) {
            objects[i] = object;
        }

        boolean isFitFor(Item object) {
            if (object == null) {
                return true;
            }
            switch (kind) {
                case INT_ROWS:
                    return object.kind == INTS;
                case MARKS:
                    return object.kind == MARK || object.kind == SEAL;
                default:
                    return object.kind == SEAL;
            }
        }

        /** Takes the OBJECTS ahead of the first one that doesn't FIT, and tells how many. */
        int takeFittingSpan(int j, ObjectRow source, int i, int n) {
            int fitting = 0;
            while (fitting < n && isFitFor(source.objects[i + fitting])) {
                fitting++;
            }
            System.arraycopy(source.objects, i, objects, j, fitting);
            return fitting;
        }

        long digestOfObjects() {
            long d = kind + 1;
            for (Item object : objects) {
                d = 31 * d + digestedAs(object);
            }
            return d;
        }

        private static long digestedAs(Item object) {
            if (object == null) {
                return 0;
            }
            if (object instanceof NumberRow ints) {
                return ints.digestOfNumbers();
            }
            return toldAs(object);
        }
    }

    private final Item[] shelf = new Item[PLACES];
    private final int[] list = new int[LONGEST_LIST * NUMBERS_OF_A_MOVE];
    private int planned = 0;
    private int stock = FIRST_STOCK;
    private int lastWhy = DONE;
    private int lastMoved = 0;
    private int lastEnded = DONE;
    private int movesDone = 0;
    private int movesRefused = 0;

    /** Promise 1. */
    public SpanMover() {
    }

    /** Promise 2. */
    public int row(int kind, int n) {
        if (kind < INTS || kind > SEALS) {
            return NO_SUCH_KIND;
        }
        int place = lowestEmptyPlace();
        if (n > LONGEST_ROW || place == NO_PLACE || stock < n + 1) {
            return NO_ROOM;
        }
        if (n < 0) {
            return NEGATIVE_LENGTH;
        }
        stock -= n + 1;
        shelf[place] = kind <= DOUBLES ? new NumberRow(kind, n) : new ObjectRow(kind, n);
        return place;
    }

    /** Promise 3. */
    public int mark(int v) {
        return newThing(MARK, v);
    }

    /** Promise 4. */
    public int seal(int v) {
        return newThing(SEAL, v);
    }

    /** Promise 5. */
    public int kindOf(int place) {
        Item item = itemAt(place);
        return item == null ? -1 : item.kind;
    }

    /** Promise 6. */
    public int length(int place) {
        Item item = itemAt(place);
        if (item == null) {
            return -1;
        }
        return item instanceof Row row ? row.size : -2;
    }

    /** Promise 7. */
    public int set(int place, int i, long v) {
        Item item = itemAt(place);
        int refusal = refusalAt(item, i, INTS, DOUBLES);
        if (refusal == DONE && item instanceof NumberRow row) {
            row.put(i, v);
        }
        return refusal;
    }

    /** Promise 8. */
    public int setThing(int place, int i, int thing) {
        Item item = itemAt(place);
        Item object = itemAt(thing);
        if (object == null && thing != -1) {
            return EMPTY_PLACE;
        }
        int refusal = refusalAt(item, i, INT_ROWS, SEALS);
        if (refusal == DONE && item instanceof ObjectRow row) {
            if (!row.isFitFor(object)) {
                return NO_FIT;
            }
            row.putObject(i, object);
        }
        return refusal;
    }

    /** Promise 9. */
    public long get(int place, int i) {
        Item item = itemAt(place);
        lastWhy = refusalAt(item, i, INTS, SEALS);
        if (lastWhy == DONE && item instanceof NumberRow row) {
            return row.numberAt(i);
        }
        if (lastWhy == DONE && item instanceof ObjectRow row) {
            return toldAs(row.objectAt(i));
        }
        return 0;
    }

    /** Promise 10. */
    public long deep(int place, int i, int k) {
        Item item = itemAt(place);
        lastWhy = refusalAt(item, i, INT_ROWS, INT_ROWS);
        if (lastWhy == DONE && item instanceof ObjectRow row) {
            return innerNumber(row.objectAt(i), k);
        }
        return 0;
    }

    /** Promise 11. */
    public int why() {
        return lastWhy;
    }

    /** Promise 12. */
    public int lift(int place, int i) {
        Item item = itemAt(place);
        int refusal = refusalAt(item, i, INT_ROWS, SEALS);
        if (refusal == DONE && item instanceof ObjectRow row) {
            return standLifted(row.objectAt(i));
        }
        return -refusal;
    }

    /** Promise 13. */
    public int move(int from, int i, int to, int j, int n) {
        return doMove(from, i, to, j, n);
    }

    /** Promise 14. */
    public int moved() {
        return lastMoved;
    }

    /** Promise 15. */
    public int plan(int from, int i, int to, int j, int n) {
        if (planned >= LONGEST_LIST) {
            return -1;
        }
        int at = planned * NUMBERS_OF_A_MOVE;
        list[at] = from;
        list[at + 1] = i;
        list[at + 2] = to;
        list[at + 3] = j;
        list[at + 4] = n;
        planned++;
        return planned;
    }

    /** Promise 16. */
    public int run() {
        int done = 0;
        while (done < planned && doPlanned(done) == DONE) {
            done++;
        }
        planned = 0;
        return done;
    }

    /** Promise 17. */
    public int ended() {
        return lastEnded;
    }

    /** Promise 18. */
    public int clear(int place) {
        if (itemAt(place) == null) {
            return 0;
        }
        shelf[place] = null;
        return 1;
    }

    /** Promise 19. */
    public int same(int a, int b) {
        Item first = itemAt(a);
        Item second = itemAt(b);
        if (first == null || second == null) {
            return -1;
        }
        return first == second ? 1 : 0;
    }

    /** Promise 20. */
    public long digest(int place) {
        Item item = itemAt(place);
        if (item instanceof NumberRow row) {
            return row.digestOfNumbers();
        }
        if (item instanceof ObjectRow row) {
            return row.digestOfObjects();
        }
        if (item instanceof Thing thing) {
            return 31L * (thing.kind + 1) + thing.value;
        }
        return 0;
    }

    /** Promise 21. */
    public int count(int what) {
        switch (what) {
            case 0:
                return takenPlaces();
            case 1:
                return stock;
            case 2:
                return planned;
            case 3:
                return movesDone;
            case 4:
                return movesRefused;
            default:
                return -1;
        }
    }

    /** Null for an EMPTY place, and for a number that is no place's. */
    private Item itemAt(int place) {
        return place >= 0 && place < PLACES ? shelf[place] : null;
    }

    private int lowestEmptyPlace() {
        for (int place = 0; place < PLACES; place++) {
            if (shelf[place] == null) {
                return place;
            }
        }
        return NO_PLACE;
    }

    private int takenPlaces() {
        int taken = 0;
        for (Item item : shelf) {
            if (item != null) {
                taken++;
            }
        }
        return taken;
    }

    private int newThing(int kind, int value) {
        int place = lowestEmptyPlace();
        if (place == NO_PLACE || stock < 1) {
            return NO_ROOM;
        }
        stock--;
        shelf[place] = new Thing(kind, value);
        return place;
    }

    /** The order of these tests is the order of the reasons in promises 7 to 10 and 12. */
    private static int refusalAt(Item item, int i, int lowestKind, int highestKind) {
        if (item == null) {
            return EMPTY_PLACE;
        }
        if (!(item instanceof Row row)) {
            return A_THING;
        }
        if (row.kind < lowestKind || row.kind > highestKind) {
            return WRONG_KIND;
        }
        return row.hasElement(i) ? DONE : NO_ELEMENT;
    }

    /** What get tells of an ELEMENT of OBJECTS. */
    private static long toldAs(Item object) {
        if (object instanceof Thing thing) {
            return thing.kind * ONE_KIND + (thing.value & LOW_BITS);
        }
        if (object instanceof Row row) {
            return row.size;
        }
        return -1;
    }

    private long innerNumber(Item object, int k) {
        if (!(object instanceof NumberRow ints)) {
            lastWhy = IS_NONE;
            return 0;
        }
        if (!ints.hasElement(k)) {
            lastWhy = NO_INNER_ELEMENT;
            return 0;
        }
        return ints.numberAt(k);
    }

    private int standLifted(Item object) {
        if (object == null) {
            return -IS_NONE;
        }
        int place = lowestEmptyPlace();
        if (place == NO_PLACE) {
            return -ALL_PLACES_TAKEN;
        }
        shelf[place] = object;
        return place;
    }

    private int doPlanned(int k) {
        int at = k * NUMBERS_OF_A_MOVE;
        return doMove(list[at], list[at + 1], list[at + 2], list[at + 3], list[at + 4]);
    }

    private int doMove(int from, int i, int to, int j, int n) {
        Item a = itemAt(from);
        Item b = itemAt(to);
        lastMoved = 0;
        lastEnded = refusalOfRows(a, b);
        if (lastEnded == DONE && a instanceof Row source && b instanceof Row target) {
            lastEnded = moveSpan(source, i, target, j, n);
        }
        if (lastEnded == DONE) {
            movesDone++;
        } else {
            movesRefused++;
        }
        return lastEnded;
    }

    /** Reasons 1 to 3 of a MOVE. */
    private static int refusalOfRows(Item a, Item b) {
        if (a == null || b == null) {
            return EMPTY_PLACE;
        }
        if (a instanceof Thing || b instanceof Thing) {
            return A_THING;
        }
        boolean bothOfObjects = a instanceof ObjectRow && b instanceof ObjectRow;
        return bothOfObjects || a.kind == b.kind ? DONE : WRONG_KIND;
    }

    /** Reasons 4 and 5 of a MOVE, and the MOVE itself, between rows that reason 3 lets pass. */
    private int moveSpan(Row source, int i, Row target, int j, int n) {
        if (!source.hasSpan(i, n) || !target.hasSpan(j, n)) {
            return NO_ELEMENT;
        }
        if (source instanceof NumberRow a && target instanceof NumberRow b) {
            b.takeSpan(j, a, i, n);
            lastMoved = n;
        }
        if (source instanceof ObjectRow a && target instanceof ObjectRow b) {
            lastMoved = b.takeFittingSpan(j, a, i, n);
        }
        return lastMoved == n ? DONE : NO_FIT;
    }
}
