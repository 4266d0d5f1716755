import java.util.ConcurrentModificationException;
import java.util.NoSuchElementException;

/** What the tests of the promises have in common: objects to begin with, and what is asked of them. */
abstract class TestBase {
    static final Class<? extends RuntimeException> INDEX = IndexOutOfBoundsException.class;
    static final Class<? extends RuntimeException> ARGUMENT = IllegalArgumentException.class;
    static final Class<? extends RuntimeException> STATE = IllegalStateException.class;
    static final Class<? extends RuntimeException> UNSUPPORTED = UnsupportedOperationException.class;
    static final Class<? extends RuntimeException> NONE = NoSuchElementException.class;
    static final Class<? extends RuntimeException> CHANGED = ConcurrentModificationException.class;

    static final int[] ALL = {0, 1, 2, 3, 4, 5, 6, 7, 8};
    static final int[] WALKED = {0, 1, 2, 3, 4, 5, 6, 7};
    static final int[] TOLD = {0, 1, 2, 3, 4, 6, 7};
    static final int[] LISTS = {0, 1};
    static final int[] MAPS = {2, 3, 4, 5};
    static final int[] TOLD_MAPS = {2, 3, 4};
    static final int[] MAPS_AND_SETS = {2, 3, 4, 5, 6, 7};
    static final int[] NO_LISTS = {2, 3, 4, 5, 6, 7, 8};
    static final int[] NO_MAPS = {0, 1, 6, 7, 8};
    static final String[] KINDS = {"kl", "kl", "kve", "kve", "kved", "kve", "k", "k", ""};

    interface Numbered {
        Object on(Walkwatch x, int number);
    }

    /** The numbers beside a range, and int's own least and greatest one. */
    static int[] outside(int least, int greatest) {
        return new int[] {least - 1, greatest + 1, Integer.MIN_VALUE, Integer.MAX_VALUE};
    }

    static Walkwatch with(int collection, int... things) {
        Walkwatch x = new Walkwatch();
        for (int thing : things) {
            Check.same(x.add(collection, thing), true);
        }
        return x;
    }

    /** A collection with the 40 things 0 to 39. */
    static Walkwatch full(int collection) {
        Walkwatch x = new Walkwatch();
        for (int i = 0; i < 40; i++) {
            x.add(collection, i);
        }
        return x;
    }

    /** Each collection has 10, 20, 30 and 40, and each walk of it is of use and inside it, but 7, at its end. */
    static Walkwatch rich() {
        Walkwatch x = new Walkwatch();
        for (int c : ALL) {
            for (int thing = 10; thing <= 40; thing += 10) {
                x.add(c, thing);
            }
        }
        for (int map : MAPS) {
            x.put(map, 10, 1);
            x.put(map, 20, 2);
            x.put(map, 30, 3);
            x.put(map, 40, 4);
        }
        x.begin(0, 0, 'l');
        x.begin(1, 1, 'k');
        x.begin(2, 2, 'e');
        x.begin(3, 3, 'v');
        x.begin(4, 4, 'd');
        x.beginSpan(5, 15, 35);
        x.begin(6, 5, 'e');
        for (int w = 0; w <= 6; w++) {
            x.step(w);
        }
        x.beginAt(7, 1, 4);
        return x;
    }

    /** Like rich(), with the same things, but none of its walks is of use any more. */
    static Walkwatch spoiled() {
        Walkwatch x = rich();
        for (int c : ALL) {
            x.add(c, 50);
            x.drop(c, 50);
        }
        return x;
    }

    static void holds(Walkwatch x, int collection, int... things) {
        Check.same(x.size(collection), things.length);
        for (int i = 0; i < things.length; i++) {
            Check.same(x.thingAt(collection, i), things[i]);
        }
    }

    static void values(Walkwatch x, int map, int... values) {
        for (int i = 0; i < values.length; i++) {
            Check.same(x.valueAt(map, i), values[i]);
        }
    }

    static void refusesEach(Class<? extends RuntimeException> due, int[] numbers, Twin.Setup setup, Numbered call) {
        for (int number : numbers) {
            Twin.refuses(due, setup, x -> call.on(x, number));
        }
    }

    /** The call takes the numbers of collections, 0 to 8, alone. */
    static void needsCollection(Numbered call) {
        refusesEach(INDEX, outside(0, 8), TestBase::rich, call);
        refusesEach(INDEX, outside(0, 8), Walkwatch::new, call);
    }

    /** The call takes the numbers of walks, 0 to 7, alone. */
    static void needsWalk(Numbered call) {
        refusesEach(INDEX, outside(0, 7), TestBase::rich, call);
        refusesEach(INDEX, outside(0, 7), Walkwatch::new, call);
    }

    /** The call takes some collections alone. */
    static void needsOther(int[] collections, Numbered call) {
        refusesEach(UNSUPPORTED, collections, TestBase::rich, call);
        refusesEach(UNSUPPORTED, collections, Walkwatch::new, call);
    }

    /** Whether a walk that is begun ahead of a call loses its use by it. */
    static boolean costsUse(Walkwatch x, int collection, Check.Call call) {
        x.begin(7, collection, 'k');
        call.run();
        try {
            x.step(7);
            return false;
        } catch (ConcurrentModificationException e) {
            return true;
        }
    }
}
