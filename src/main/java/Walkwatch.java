import java.util.NoSuchElementException;

/**
 * Walks over collections that change meanwhile. Each collection is kept as a row of things in the order of its
 * walk, with a count of its changes of build; a walk is of use as long as it has seen them all.
 */
public final class Walkwatch {
    private static final int COLLECTIONS = 9;
    private static final int WALKS = 8;
    private static final int MOST = 40;
    private static final int GREATEST = 99;

    private static final int LINKED_LIST = 1;
    private static final int PUT_MAP = 2;
    private static final int ASKED_MAP = 3;
    private static final int TREE_MAP = 4;
    private static final int HASH_MAP = 5;
    private static final int TREE_SET = 6;
    private static final int QUEUE = 8;

    private static final char NONE = '-';
    private static final char THINGS = 'k';
    private static final char VALUES = 'v';
    private static final char ENTRIES = 'e';
    private static final char DOWNWARD = 'd';
    private static final char TURNING = 'l';
    private static final char SPAN = 's';

    private final Shelf[] shelves = new Shelf[COLLECTIONS];
    private final Walk[] walks = new Walk[WALKS];
    private final Walk untold;

    public Walkwatch() {
        for (int i = 0; i < COLLECTIONS; i++) {
            shelves[i] = new Shelf(i);
        }
        for (int i = 0; i < WALKS; i++) {
            walks[i] = new Walk(shelves[0]);
        }
        untold = new Walk(shelves[0]);
    }

    // ---- collections

    public int size(int collection) throws IndexOutOfBoundsException {
        return shelfAt(collection).count;
    }

    public boolean add(int collection, int thing)
            throws IndexOutOfBoundsException, IllegalArgumentException, IllegalStateException {
        Shelf shelf = shelfAt(collection);
        requireInRange(thing);
        int index = shelf.holdsLikeOnes() ? -1 : shelf.indexOf(thing);
        if (index >= 0) {
            shelf.renew(index);
            return false;
        }
        requireRoom(shelf, 1);
        shelf.open(shelf.placeFor(thing), thing, 0);
        return true;
    }

    public int insert(int list, int place, int thing)
            throws IndexOutOfBoundsException, UnsupportedOperationException, NoSuchElementException,
            IllegalArgumentException, IllegalStateException {
        Shelf shelf = listAt(list);
        requirePlace(place, shelf.count + 1);
        requireInRange(thing);
        requireRoom(shelf, 1);
        shelf.open(place, thing, 0);
        return shelf.count;
    }

    public boolean put(int map, int key, int value)
            throws IndexOutOfBoundsException, UnsupportedOperationException, IllegalArgumentException,
            IllegalStateException {
        Shelf shelf = mapAt(map);
        requireInRange(key);
        requireInRange(value);
        int index = shelf.indexOf(key);
        if (index >= 0) {
            shelf.tellValue(index, value);
            shelf.renew(index);
            return true;
        }
        requireRoom(shelf, 1);
        shelf.open(shelf.placeFor(key), key, value);
        return false;
    }

    public int set(int list, int place, int thing)
            throws IndexOutOfBoundsException, UnsupportedOperationException, NoSuchElementException,
            IllegalArgumentException {
        Shelf shelf = listAt(list);
        requirePlace(place, shelf.count);
        requireInRange(thing);
        int before = shelf.thing(place);
        shelf.exchange(place, thing);
        return before;
    }

    public int get(int list, int place)
            throws IndexOutOfBoundsException, UnsupportedOperationException, NoSuchElementException {
        Shelf shelf = listAt(list);
        requirePlace(place, shelf.count);
        return shelf.thing(place);
    }

    public int ask(int map, int key)
            throws IndexOutOfBoundsException, UnsupportedOperationException, NoSuchElementException {
        Shelf shelf = mapAt(map);
        int index = shelf.indexOf(key);
        if (index < 0) {
            throw new NoSuchElementException();
        }
        if (map == ASKED_MAP && index == shelf.count - 1) {
            throw new UnsupportedOperationException();
        }
        int value = shelf.value(index);
        shelf.renew(index);
        return value;
    }

    public boolean has(int collection, int thing) throws IndexOutOfBoundsException {
        return shelfAt(collection).indexOf(thing) >= 0;
    }

    public boolean drop(int collection, int thing) throws IndexOutOfBoundsException {
        Shelf shelf = shelfAt(collection);
        int index = shelf.indexOf(thing);
        if (index < 0) {
            return false;
        }
        shelf.close(index, 1);
        return true;
    }

    public int takeAt(int list, int place)
            throws IndexOutOfBoundsException, UnsupportedOperationException, NoSuchElementException {
        Shelf shelf = listAt(list);
        requirePlace(place, shelf.count);
        int thing = shelf.thing(place);
        shelf.close(place, 1);
        return thing;
    }

    public int cut(int list, int from, int many)
            throws IndexOutOfBoundsException, UnsupportedOperationException, IllegalArgumentException,
            NoSuchElementException {
        Shelf shelf = listAt(list);
        if (many < 1) {
            throw new IllegalArgumentException();
        }
        // from + many could go round
        if (from < 0 || from > shelf.count - many) {
            throw new NoSuchElementException();
        }
        shelf.close(from, many);
        return shelf.count;
    }

    public int poll(int collection, boolean isLast)
            throws IndexOutOfBoundsException, UnsupportedOperationException, NoSuchElementException {
        Shelf shelf = shelfAt(collection);
        boolean hasTwoEnds = collection == LINKED_LIST || collection == TREE_MAP || collection == TREE_SET;
        if (!hasTwoEnds && (collection != QUEUE || isLast)) {
            throw new UnsupportedOperationException();
        }
        if (shelf.count == 0) {
            throw new NoSuchElementException();
        }
        int index = isLast ? shelf.count - 1 : 0;
        int thing = shelf.thing(index);
        shelf.close(index, 1);
        return thing;
    }

    public int clear(int collection) throws IndexOutOfBoundsException {
        Shelf shelf = shelfAt(collection);
        int before = shelf.count;
        shelf.close(0, before);
        return before;
    }

    public int addAll(int list, int other)
            throws IndexOutOfBoundsException, UnsupportedOperationException, IllegalStateException {
        Shelf shelf = shelfAt(list);
        Shelf source = shelfAt(other);
        if (!shelf.isList() || list == other || !source.isOrderTold()) {
            throw new UnsupportedOperationException();
        }
        requireRoom(shelf, source.count);
        for (int i = 0; i < source.count; i++) {
            shelf.open(shelf.count, source.thing(i), 0);
        }
        return shelf.count;
    }

    public int sweep(int collection, int by, int rest) throws IndexOutOfBoundsException, IllegalArgumentException {
        Shelf shelf = shelfAt(collection);
        if (by < 1 || by > 9 || rest < 0 || rest > 8) {
            throw new IllegalArgumentException();
        }
        int before = shelf.count;
        untold.start(THINGS, shelf, 0);
        for (int i = 0; i < before; i++) {
            int thing = shelf.thing(untold.goOn());
            if (thing % by == rest) {
                untold.takeLast();
            }
        }
        return before - shelf.count;
    }

    // ---- walks

    public boolean begin(int walk, int collection, char kind)
            throws IndexOutOfBoundsException, IllegalArgumentException, UnsupportedOperationException {
        Walk begun = walkAt(walk);
        Shelf shelf = shelfAt(collection);
        if (!isKind(kind)) {
            throw new IllegalArgumentException();
        }
        if (!shelf.hasWalks(kind)) {
            throw new UnsupportedOperationException();
        }
        begun.start(kind, shelf, kind == DOWNWARD ? shelf.count : 0);
        return begun.wasAtEnd;
    }

    public boolean beginAt(int walk, int list, int place)
            throws IndexOutOfBoundsException, UnsupportedOperationException, NoSuchElementException {
        Walk begun = walkAt(walk);
        Shelf shelf = listAt(list);
        requirePlace(place, shelf.count + 1);
        begun.start(TURNING, shelf, place);
        return begun.wasAtEnd;
    }

    public boolean beginSpan(int walk, int low, int high) throws IndexOutOfBoundsException, IllegalArgumentException {
        Walk begun = walkAt(walk);
        if (high < low) {
            throw new IllegalArgumentException();
        }
        begun.startSpan(shelves[TREE_MAP], low, high);
        return begun.wasAtEnd;
    }

    public int step(int walk)
            throws IndexOutOfBoundsException, NoSuchElementException, IllegalStateException,
            java.util.ConcurrentModificationException {
        Walk going = goingAt(walk);
        if (going.kind == SPAN && !going.isOfUse()) {
            throw new IllegalStateException();
        }
        requireUse(going);
        return going.answer(going.goOn());
    }

    public int stepChange(int walk, int value)
            throws IndexOutOfBoundsException, NoSuchElementException, UnsupportedOperationException,
            IllegalArgumentException, java.util.ConcurrentModificationException {
        Walk going = goingAt(walk);
        if (going.kind != ENTRIES || !going.shelf.isOrderTold()) {
            throw new UnsupportedOperationException();
        }
        requireInRange(value);
        requireUse(going);
        int index = going.goOn();
        int answer = going.answer(index);
        going.shelf.tellValue(index, value);
        return answer;
    }

    public int back(int walk)
            throws IndexOutOfBoundsException, NoSuchElementException, UnsupportedOperationException,
            java.util.ConcurrentModificationException {
        Walk turning = turningAt(walk);
        if (turning.place == 0) {
            throw new NoSuchElementException();
        }
        requireUse(turning);
        return turning.answer(turning.goBack());
    }

    public int take(int walk)
            throws IndexOutOfBoundsException, NoSuchElementException, UnsupportedOperationException,
            IllegalStateException, java.util.ConcurrentModificationException {
        Walk begun = begunAt(walk);
        if (!begun.shelf.isOrderTold()) {
            throw new UnsupportedOperationException();
        }
        requireLast(begun);
        requireUse(begun);
        begun.takeLast();
        return begun.shelf.count;
    }

    public int lay(int walk, int thing)
            throws IndexOutOfBoundsException, NoSuchElementException, UnsupportedOperationException,
            IllegalArgumentException, IllegalStateException, java.util.ConcurrentModificationException {
        Walk turning = turningAt(walk);
        requireInRange(thing);
        requireRoom(turning.shelf, 1);
        requireUse(turning);
        turning.layDown(thing);
        return turning.place;
    }

    public int change(int walk, int thing)
            throws IndexOutOfBoundsException, NoSuchElementException, UnsupportedOperationException,
            IllegalArgumentException, IllegalStateException, java.util.ConcurrentModificationException {
        Walk turning = turningAt(walk);
        requireInRange(thing);
        requireLast(turning);
        requireUse(turning);
        turning.shelf.exchange(turning.last, thing);
        return turning.place;
    }

    public int place(int walk)
            throws IndexOutOfBoundsException, NoSuchElementException, UnsupportedOperationException {
        return turningAt(walk).place;
    }

    public boolean isAtEnd(int walk) throws IndexOutOfBoundsException, NoSuchElementException {
        return begunAt(walk).wasAtEnd;
    }

    public int answered(int walk) throws IndexOutOfBoundsException, NoSuchElementException {
        return begunAt(walk).answers;
    }

    public int end(int walk) throws IndexOutOfBoundsException, NoSuchElementException {
        Walk ended = begunAt(walk);
        ended.kind = NONE;
        return ended.answers;
    }

    public char kindOf(int walk) throws IndexOutOfBoundsException {
        return walkAt(walk).kind;
    }

    // ---- figures

    public int thingAt(int collection, int index)
            throws IndexOutOfBoundsException, UnsupportedOperationException, NoSuchElementException {
        Shelf shelf = shelfAt(collection);
        if (!shelf.isOrderTold()) {
            throw new UnsupportedOperationException();
        }
        requirePlace(index, shelf.count);
        return shelf.thing(index);
    }

    public int valueAt(int map, int index)
            throws IndexOutOfBoundsException, UnsupportedOperationException, NoSuchElementException {
        Shelf shelf = mapAt(map);
        if (!shelf.isOrderTold()) {
            throw new UnsupportedOperationException();
        }
        requirePlace(index, shelf.count);
        return shelf.value(index);
    }

    public int sum(int collection) throws IndexOutOfBoundsException {
        return shelfAt(collection).total();
    }

    public float endShare() throws ArithmeticException {
        int begun = 0;
        int ended = 0;
        for (int i = 0; i < WALKS; i++) {
            if (walks[i].kind != NONE) {
                begun++;
                ended += walks[i].wasAtEnd ? 1 : 0;
            }
        }
        if (begun == 0) {
            throw new ArithmeticException();
        }
        return (float) ended / (float) begun;
    }

    public double meanSize() {
        int things = 0;
        for (int i = 0; i < COLLECTIONS; i++) {
            things += shelves[i].count;
        }
        return (double) things / (double) COLLECTIONS;
    }

    public long checksum() {
        long code = 7L;
        for (int i = 0; i < COLLECTIONS; i++) {
            code = shelves[i].codeBehind(code);
        }
        return walksCodeBehind(code);
    }

    public boolean isTrue() {
        long before = walksCodeBehind(0L);
        for (int i = 0; i < COLLECTIONS; i++) {
            if (!isWalkedForward(shelves[i])) {
                return false;
            }
            if (shelves[i].isList() && !isWalkedBackward(shelves[i])) {
                return false;
            }
        }
        return before == walksCodeBehind(0L);
    }

    // ---- what calls have in common

    private Shelf shelfAt(int collection) {
        if (collection < 0 || collection >= COLLECTIONS) {
            throw new IndexOutOfBoundsException();
        }
        return shelves[collection];
    }

    private Shelf listAt(int collection) {
        Shelf shelf = shelfAt(collection);
        if (!shelf.isList()) {
            throw new UnsupportedOperationException();
        }
        return shelf;
    }

    private Shelf mapAt(int collection) {
        Shelf shelf = shelfAt(collection);
        if (!shelf.isMap()) {
            throw new UnsupportedOperationException();
        }
        return shelf;
    }

    private Walk walkAt(int walk) {
        if (walk < 0 || walk >= WALKS) {
            throw new IndexOutOfBoundsException();
        }
        return walks[walk];
    }

    private Walk begunAt(int walk) {
        Walk begun = walkAt(walk);
        if (begun.kind == NONE) {
            throw new NoSuchElementException();
        }
        return begun;
    }

    private Walk goingAt(int walk) {
        Walk going = begunAt(walk);
        if (going.wasAtEnd) {
            throw new NoSuchElementException();
        }
        return going;
    }

    private Walk turningAt(int walk) {
        Walk turning = begunAt(walk);
        if (turning.kind != TURNING) {
            throw new UnsupportedOperationException();
        }
        return turning;
    }

    private static void requireInRange(int thing) {
        if (thing < 0 || thing > GREATEST) {
            throw new IllegalArgumentException();
        }
    }

    private static void requirePlace(int place, int places) {
        if (place < 0 || place >= places) {
            throw new NoSuchElementException();
        }
    }

    private static void requireRoom(Shelf shelf, int more) {
        if (shelf.count + more > MOST) {
            throw new IllegalStateException();
        }
    }

    private static void requireLast(Walk walk) {
        if (walk.last < 0) {
            throw new IllegalStateException();
        }
    }

    private static void requireUse(Walk walk) {
        if (!walk.isOfUse()) {
            throw new java.util.ConcurrentModificationException();
        }
    }

    // 's' is left out: no call of begin() can ask for the walk of a span.
    private static boolean isKind(char kind) {
        return kind == THINGS || kind == VALUES || kind == ENTRIES || kind == DOWNWARD || kind == TURNING;
    }

    private long walksCodeBehind(long code) {
        long behind = code;
        for (int i = 0; i < WALKS; i++) {
            behind = walks[i].codeBehind(behind);
        }
        return behind;
    }

    private boolean isWalkedForward(Shelf shelf) {
        boolean mustRise = shelf.number == TREE_MAP || shelf.number == TREE_SET;
        int ahead = -1;
        untold.start(THINGS, shelf, 0);
        for (int i = 0; i < shelf.count; i++) {
            if (untold.wasAtEnd || !untold.isOfUse()) {
                return false;
            }
            int thing = shelf.thing(untold.goOn());
            if (thing != shelf.thing(i) || mustRise && thing <= ahead) {
                return false;
            }
            ahead = thing;
        }
        return untold.wasAtEnd;
    }

    private boolean isWalkedBackward(Shelf shelf) {
        untold.start(TURNING, shelf, shelf.count);
        for (int i = shelf.count - 1; i >= 0; i--) {
            if (untold.place == 0 || !untold.isOfUse()) {
                return false;
            }
            if (shelf.thing(untold.goBack()) != shelf.thing(i)) {
                return false;
            }
        }
        return untold.place == 0;
    }

    /** A collection: its things in the order of its walk, each with its value. */
    private static final class Shelf {
        final int number;
        final int[] things = new int[MOST];
        final int[] values = new int[MOST];
        int count;
        int builds;

        Shelf(int number) {
            this.number = number;
        }

        boolean isList() {
            return number <= LINKED_LIST;
        }

        boolean isMap() {
            return number >= PUT_MAP && number <= HASH_MAP;
        }

        boolean isRising() {
            return number == TREE_MAP || number == TREE_SET || number == QUEUE;
        }

        boolean isOrderTold() {
            return number != HASH_MAP && number != QUEUE;
        }

        boolean holdsLikeOnes() {
            return isList() || number == QUEUE;
        }

        boolean hasWalks(char kind) {
            if (kind == VALUES || kind == ENTRIES) {
                return isMap();
            }
            if (kind == DOWNWARD) {
                return number == TREE_MAP;
            }
            if (kind == TURNING) {
                return isList();
            }
            return kind == THINGS && number != QUEUE;
        }

        int thing(int index) {
            return index >= 0 && index < count ? things[index] : 0;
        }

        int value(int index) {
            return index >= 0 && index < count ? values[index] : 0;
        }

        int indexOf(int thing) {
            for (int i = 0; i < count; i++) {
                if (things[i] == thing) {
                    return i;
                }
            }
            return -1;
        }

        int firstFrom(int low) {
            int index = 0;
            while (index < count && things[index] < low) {
                index++;
            }
            return index;
        }

        int placeFor(int thing) {
            return isRising() ? firstFrom(thing) : count;
        }

        void exchange(int index, int thing) {
            if (index >= 0 && index < count) {
                things[index] = thing;
            }
        }

        void tellValue(int index, int value) {
            if (index >= 0 && index < count) {
                values[index] = value;
            }
        }

        void open(int place, int thing, int value) {
            if (place < 0 || place > count || count >= MOST) {
                return;
            }
            for (int i = count; i > place; i--) {
                things[i] = things[i - 1];
                values[i] = values[i - 1];
            }
            things[place] = thing;
            values[place] = value;
            count++;
            builds++;
        }

        // Taking none away is no change of build: it must not cost a walk its use.
        void close(int from, int many) {
            if (many < 1 || from < 0 || from > count - many) {
                return;
            }
            for (int i = from; i < count - many; i++) {
                things[i] = things[i + many];
                values[i] = values[i + many];
            }
            count -= many;
            builds++;
        }

        // A key that is the last one already leaves the order as it was, which is no change of build.
        void renew(int index) {
            if (number != ASKED_MAP || index < 0 || index >= count - 1) {
                return;
            }
            int key = things[index];
            int value = values[index];
            close(index, 1);
            open(count, key, value);
        }

        int total() {
            int total = 0;
            for (int i = 0; i < count; i++) {
                total += things[i];
            }
            return total;
        }

        long codeBehind(long code) {
            long behind = 31L * code + count;
            if (!isOrderTold()) {
                return 31L * behind + total();
            }
            for (int i = 0; i < count; i++) {
                behind = 31L * behind + things[i];
                if (isMap()) {
                    behind = 31L * behind + values[i];
                }
            }
            return behind;
        }
    }

    /** A walk: it stands between two things of its shelf, with as many as its place says ahead of it in the row. */
    private static final class Walk {
        char kind = NONE;
        Shelf shelf;
        int place;
        int last;
        int beyond;
        int answers;
        int builds;
        boolean wasAtEnd;

        Walk(Shelf shelf) {
            this.shelf = shelf;
        }

        void start(char kind, Shelf shelf, int place) {
            this.kind = kind;
            this.shelf = shelf;
            this.place = place;
            last = -1;
            answers = 0;
            note();
        }

        void startSpan(Shelf shelf, int low, int high) {
            beyond = high;
            start(SPAN, shelf, shelf.firstFrom(low));
        }

        boolean isOfUse() {
            return builds == shelf.builds;
        }

        int goOn() {
            if (kind == DOWNWARD) {
                return goBack();
            }
            last = place;
            place++;
            answers++;
            note();
            return last;
        }

        int goBack() {
            place--;
            last = place;
            answers++;
            note();
            return last;
        }

        void takeLast() {
            shelf.close(last, 1);
            if (last < place) {
                place--;
            }
            last = -1;
            note();
        }

        void layDown(int thing) {
            shelf.open(place, thing, 0);
            place++;
            last = -1;
            note();
        }

        // The end is kept, not looked up: a walk of no use tells it as it was when it last did something.
        void note() {
            builds = shelf.builds;
            if (kind == DOWNWARD) {
                wasAtEnd = place == 0;
            } else {
                wasAtEnd = place >= shelf.count || kind == SPAN && shelf.thing(place) >= beyond;
            }
        }

        // The order of the map 5 is not told, so its walks answer how many they have answered.
        int answer(int index) {
            if (!shelf.isOrderTold()) {
                return answers;
            }
            if (kind == VALUES) {
                return shelf.value(index);
            }
            if (kind == ENTRIES) {
                return 100 * shelf.thing(index) + shelf.value(index);
            }
            return shelf.thing(index);
        }

        long codeBehind(long code) {
            long behind = 31L * code + kind;
            if (kind == NONE) {
                return behind;
            }
            behind = 31L * behind + answers;
            return 31L * behind + (wasAtEnd ? 1 : 0);
        }
    }
}
