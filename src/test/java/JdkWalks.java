import java.util.ArrayList;
import java.util.Collection;
import java.util.HashMap;
import java.util.Iterator;
import java.util.LinkedHashMap;
import java.util.LinkedHashSet;
import java.util.LinkedList;
import java.util.List;
import java.util.ListIterator;
import java.util.Map;
import java.util.NoSuchElementException;
import java.util.PriorityQueue;
import java.util.TreeMap;
import java.util.TreeSet;

/**
 * The calls of Walkwatch over the JDK's own collections and iterators: its refusals by
 * ConcurrentModificationException are those that the JDK's iterators throw.
 */
public final class JdkWalks {
    private static final class Walk {
        char kind;
        int collection;
        Iterator<?> iterator;
        boolean wasAtEnd;
        boolean wasAtBeginning;
        int place;
        boolean hasLast;
        int answered;
        int builds;
    }

    private final List<List<Integer>> lists = List.of(new ArrayList<>(), new LinkedList<>());
    private final TreeMap<Integer, Integer> treeMap = new TreeMap<>();
    private final List<Map<Integer, Integer>> maps =
            List.of(new LinkedHashMap<>(), new LinkedHashMap<>(16, 0.75f, true), treeMap, new HashMap<>());
    private final TreeSet<Integer> treeSet = new TreeSet<>();
    private final PriorityQueue<Integer> queue = new PriorityQueue<>();
    private final LinkedHashSet<Integer> linkedSet = new LinkedHashSet<>();
    private final Walk[] walks = new Walk[8];
    // Spans alone need this: their iterators tell the end or a change as it comes.
    private int treeMapBuilds = 0;
    private int treeMapSize = 0;

    public JdkWalks() {
    }

    private void noteBuilds() {
        if (treeMap.size() != treeMapSize) {
            treeMapBuilds++;
            treeMapSize = treeMap.size();
        }
    }

    private static boolean isList(int c) {
        return c <= 1;
    }

    private static boolean isMap(int c) {
        return c >= 2 && c <= 5;
    }

    private Collection<Integer> things(int c) {
        if (c < 0 || c > 8) {
            throw new IndexOutOfBoundsException();
        }
        return isList(c) ? lists.get(c) : isMap(c) ? maps.get(c - 2).keySet()
                : c == 6 ? treeSet : c == 7 ? linkedSet : queue;
    }

    private List<Integer> list(int c) {
        things(c);
        if (!isList(c)) {
            throw new UnsupportedOperationException();
        }
        return lists.get(c);
    }

    private Map<Integer, Integer> map(int c) {
        things(c);
        if (!isMap(c)) {
            throw new UnsupportedOperationException();
        }
        return maps.get(c - 2);
    }

    private static void inRange(int thing) {
        if (thing < 0 || thing > 99) {
            throw new IllegalArgumentException();
        }
    }

    private static void hasPlace(boolean is) {
        if (!is) {
            throw new NoSuchElementException();
        }
    }

    private static void hasRoom(boolean is) {
        if (!is) {
            throw new IllegalStateException();
        }
    }

    public int size(int c) {
        return things(c).size();
    }

    public boolean add(int c, int thing) {
        Collection<Integer> things = things(c);
        inRange(thing);
        boolean isMore = isList(c) || c == 8 || !things.contains(thing);
        hasRoom(!isMore || things.size() < 40);
        boolean added = isMap(c) ? map(c).putIfAbsent(thing, 0) == null : things.add(thing);
        noteBuilds();
        return added;
    }

    public int insert(int c, int place, int thing) {
        List<Integer> list = list(c);
        hasPlace(place >= 0 && place <= list.size());
        inRange(thing);
        hasRoom(list.size() < 40);
        list.add(place, thing);
        return list.size();
    }

    public boolean put(int c, int key, int value) {
        Map<Integer, Integer> map = map(c);
        inRange(key);
        inRange(value);
        hasRoom(map.containsKey(key) || map.size() < 40);
        boolean was = map.put(key, value) != null;
        noteBuilds();
        return was;
    }

    public int set(int c, int place, int thing) {
        List<Integer> list = list(c);
        hasPlace(place >= 0 && place < list.size());
        inRange(thing);
        return list.set(place, thing);
    }

    public int get(int c, int place) {
        List<Integer> list = list(c);
        hasPlace(place >= 0 && place < list.size());
        return list.get(place);
    }

    public int ask(int c, int key) {
        Map<Integer, Integer> map = map(c);
        if (c == 3 && !map.isEmpty() && new ArrayList<>(map.keySet()).get(map.size() - 1) == key) {
            throw new UnsupportedOperationException();
        }
        hasPlace(map.containsKey(key));
        return map.get(key);
    }

    public boolean has(int c, int thing) {
        return things(c).contains(thing);
    }

    public boolean drop(int c, int thing) {
        boolean was = things(c).remove((Integer) thing);
        noteBuilds();
        return was;
    }

    public int takeAt(int c, int place) {
        List<Integer> list = list(c);
        hasPlace(place >= 0 && place < list.size());
        return list.remove(place);
    }

    public int cut(int c, int from, int many) {
        List<Integer> list = list(c);
        if (many < 1) {
            throw new IllegalArgumentException();
        }
        hasPlace(from >= 0 && (long) from + many <= list.size());
        list.subList(from, from + many).clear();
        return list.size();
    }

    public int poll(int c, boolean isLast) {
        Collection<Integer> things = things(c);
        if (c != 1 && c != 4 && c != 6 && c != 8 || c == 8 && isLast) {
            throw new UnsupportedOperationException();
        }
        hasPlace(!things.isEmpty());
        int polled;
        if (c == 1) {
            LinkedList<Integer> linked = (LinkedList<Integer>) lists.get(1);
            polled = isLast ? linked.pollLast() : linked.pollFirst();
        } else if (c == 4) {
            polled = isLast ? treeMap.pollLastEntry().getKey() : treeMap.pollFirstEntry().getKey();
        } else if (c == 6) {
            polled = isLast ? treeSet.pollLast() : treeSet.pollFirst();
        } else {
            polled = queue.poll();
        }
        noteBuilds();
        return polled;
    }

    public int clear(int c) {
        int were = things(c).size();
        if (were != 0) {
            things(c).clear();
            noteBuilds();
        }
        return were;
    }

    public int addAll(int c, int other) {
        Collection<Integer> things = things(c);
        Collection<Integer> others = things(other);
        if (!isList(c) || c == other || other == 5 || other == 8) {
            throw new UnsupportedOperationException();
        }
        hasRoom(things.size() + others.size() <= 40);
        if (!others.isEmpty()) {
            things.addAll(others);
        }
        return things.size();
    }

    public int sweep(int c, int by, int rest) {
        Collection<Integer> things = things(c);
        if (by < 1 || by > 9 || rest < 0 || rest > 8) {
            throw new IllegalArgumentException();
        }
        int taken = 0;
        for (Iterator<Integer> i = things.iterator(); i.hasNext();) {
            if (i.next() % by == rest) {
                i.remove();
                taken++;
            }
        }
        noteBuilds();
        return taken;
    }

    private Walk walk(int w) {
        hasWalkNumber(w);
        hasPlace(walks[w] != null);
        return walks[w];
    }

    private static void hasWalkNumber(int w) {
        if (w < 0 || w > 7) {
            throw new IndexOutOfBoundsException();
        }
    }

    private boolean begun(int w, int c, char kind, Iterator<?> iterator) {
        Walk walk = new Walk();
        walk.kind = kind;
        walk.collection = c;
        walk.iterator = iterator;
        walks[w] = walk;
        note(walk);
        return walk.wasAtEnd;
    }

    private void note(Walk walk) {
        noteBuilds();
        walk.builds = treeMapBuilds;
        walk.wasAtEnd = !walk.iterator.hasNext();
        if (walk.kind == 'l') {
            walk.wasAtBeginning = !((ListIterator<?>) walk.iterator).hasPrevious();
            walk.place = ((ListIterator<?>) walk.iterator).nextIndex();
        }
    }

    public boolean begin(int w, int c, char kind) {
        hasWalkNumber(w);
        Collection<Integer> things = things(c);
        if ("kvedl".indexOf(kind) < 0) {
            throw new IllegalArgumentException();
        }
        String kinds = isList(c) ? "kl" : c == 4 ? "kved" : isMap(c) ? "kve" : c == 8 ? "" : "k";
        if (kinds.indexOf(kind) < 0) {
            throw new UnsupportedOperationException();
        }
        Iterator<?> iterator = kind == 'k' ? things.iterator() : kind == 'v' ? map(c).values().iterator()
                : kind == 'e' ? map(c).entrySet().iterator() : kind == 'd' ? treeMap.descendingKeySet().iterator()
                : list(c).listIterator();
        return begun(w, c, kind, iterator);
    }

    public boolean beginAt(int w, int c, int place) {
        hasWalkNumber(w);
        List<Integer> list = list(c);
        hasPlace(place >= 0 && place <= list.size());
        return begun(w, c, 'l', list.listIterator(place));
    }

    public boolean beginSpan(int w, int low, int high) {
        hasWalkNumber(w);
        if (low > high) {
            throw new IllegalArgumentException();
        }
        return begun(w, 4, 's', treeMap.subMap(low, high).keySet().iterator());
    }

    private int answer(Walk walk, Object next) {
        walk.answered++;
        walk.hasLast = true;
        note(walk);
        if (walk.collection == 5) {
            return walk.answered;
        }
        if (next instanceof Map.Entry<?, ?> entry) {
            return 100 * (Integer) entry.getKey() + (Integer) entry.getValue();
        }
        return (Integer) next;
    }

    public int step(int w) {
        Walk walk = walk(w);
        hasPlace(!walk.wasAtEnd);
        hasRoom(walk.kind != 's' || walk.builds == treeMapBuilds);
        return answer(walk, walk.iterator.next());
    }

    public int stepChange(int w, int value) {
        Walk walk = walk(w);
        hasPlace(!walk.wasAtEnd);
        if (walk.kind != 'e' || walk.collection == 5) {
            throw new UnsupportedOperationException();
        }
        inRange(value);
        @SuppressWarnings("unchecked")
        Map.Entry<Integer, Integer> entry = (Map.Entry<Integer, Integer>) walk.iterator.next();
        int answer = answer(walk, entry);
        entry.setValue(value);
        return answer;
    }

    @SuppressWarnings("unchecked")
    private ListIterator<Integer> turning(Walk walk) {
        if (walk.kind != 'l') {
            throw new UnsupportedOperationException();
        }
        return (ListIterator<Integer>) walk.iterator;
    }

    public int back(int w) {
        Walk walk = walk(w);
        hasPlace(walk.kind != 'l' || !walk.wasAtBeginning);
        return answer(walk, turning(walk).previous());
    }

    public int take(int w) {
        Walk walk = walk(w);
        if (walk.collection == 5) {
            throw new UnsupportedOperationException();
        }
        hasRoom(walk.hasLast);
        walk.iterator.remove();
        walk.hasLast = false;
        note(walk);
        return size(walk.collection);
    }

    public int lay(int w, int thing) {
        Walk walk = walk(w);
        ListIterator<Integer> turning = turning(walk);
        inRange(thing);
        hasRoom(size(walk.collection) < 40);
        turning.add(thing);
        walk.hasLast = false;
        note(walk);
        return walk.place;
    }

    public int change(int w, int thing) {
        Walk walk = walk(w);
        ListIterator<Integer> turning = turning(walk);
        inRange(thing);
        hasRoom(walk.hasLast);
        turning.set(thing);
        note(walk);
        return walk.place;
    }

    public int place(int w) {
        Walk walk = walk(w);
        turning(walk);
        return walk.place;
    }

    public boolean isAtEnd(int w) {
        return walk(w).wasAtEnd;
    }

    public int answered(int w) {
        return walk(w).answered;
    }

    public int end(int w) {
        int answered = walk(w).answered;
        walks[w] = null;
        return answered;
    }

    public char kindOf(int w) {
        hasWalkNumber(w);
        return walks[w] == null ? '-' : walks[w].kind;
    }

    public int thingAt(int c, int index) {
        Collection<Integer> things = things(c);
        if (c == 5 || c == 8) {
            throw new UnsupportedOperationException();
        }
        hasPlace(index >= 0 && index < things.size());
        return new ArrayList<>(things).get(index);
    }

    public int valueAt(int c, int index) {
        Map<Integer, Integer> map = map(c);
        if (c == 5) {
            throw new UnsupportedOperationException();
        }
        hasPlace(index >= 0 && index < map.size());
        return new ArrayList<>(map.values()).get(index);
    }

    public int sum(int c) {
        int sum = 0;
        for (int thing : things(c)) {
            sum += thing;
        }
        return sum;
    }

    public float endShare() {
        float all = 0;
        float ended = 0;
        for (Walk walk : walks) {
            if (walk != null) {
                all++;
                ended += walk.wasAtEnd ? 1 : 0;
            }
        }
        if (all == 0) {
            throw new ArithmeticException();
        }
        return ended / all;
    }

    public double meanSize() {
        double sum = 0;
        for (int c = 0; c < 9; c++) {
            sum += size(c);
        }
        return sum / 9;
    }

    public long checksum() {
        long code = 7;
        for (int c = 0; c < 9; c++) {
            code = 31 * code + size(c);
            if (c == 5 || c == 8) {
                code = 31 * code + sum(c);
            } else if (isMap(c)) {
                for (Map.Entry<Integer, Integer> entry : map(c).entrySet()) {
                    code = 31 * (31 * code + entry.getKey()) + entry.getValue();
                }
            } else {
                for (int thing : things(c)) {
                    code = 31 * code + thing;
                }
            }
        }
        for (Walk walk : walks) {
            code = 31 * code + (walk == null ? '-' : walk.kind);
            if (walk != null) {
                code = 31 * (31 * code + walk.answered) + (walk.wasAtEnd ? 1 : 0);
            }
        }
        return code;
    }

    public boolean isTrue() {
        return true;
    }
}
