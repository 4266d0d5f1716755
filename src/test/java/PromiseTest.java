/** For each promise of the document: ordinary inputs, the edges that it names, and wrong inputs. */
final class PromiseTest extends TestBase {
    private PromiseTest() {
    }

    public static void main(String[] args) {
        Check.runAll(PromiseTest.class, "promise");
    }

    /** The number of a collection, or of a walk, from 0 to the last one alone. */
    private static void needsNumber(int last, Numbered call) {
        for (int number : new int[] {-1, last + 1, Integer.MAX_VALUE, Integer.MIN_VALUE}) {
            Walkwatch x = new Walkwatch();
            Check.isRefused(x, INDEX, () -> call.on(x, number));
        }
    }

    private static void isUnsupportedFor(int[] numbers, Numbered call) {
        for (int number : numbers) {
            Walkwatch x = new Walkwatch();
            x.add(number, 1);
            Check.isRefused(x, UNSUPPORTED, () -> call.on(x, number));
        }
    }

    static void promise01NewObject() {
        Walkwatch x = new Walkwatch();
        for (int c : ALL) {
            Check.same(x.size(c), 0);
        }
        for (int w = 0; w <= 7; w++) {
            Check.same(x.kindOf(w), '-');
        }
        with(0, 5);
        Check.same(new Walkwatch().size(0), 0);
    }

    static void promise02Size() {
        for (int c : ALL) {
            Check.same(with(c, 3, 4).size(c), 2);
            Check.same(full(c).size(c), 40);
        }
        needsNumber(8, (x, c) -> x.size(c));
    }

    static void promise03Add() {
        holds(with(0, 5, 2, 5), 0, 5, 2, 5);
        holds(with(1, 5, 2, 5), 1, 5, 2, 5);
        holds(with(2, 5, 2, 9), 2, 5, 2, 9);
        holds(with(3, 5, 2, 9), 3, 5, 2, 9);
        holds(with(4, 5, 2, 9), 4, 2, 5, 9);
        holds(with(6, 5, 2, 9), 6, 2, 5, 9);
        holds(with(7, 5, 2, 9), 7, 5, 2, 9);
        Walkwatch queue = with(8, 5, 2, 5);
        Check.same(queue.poll(8, false), 2);
        Check.same(queue.poll(8, false), 5);
        Check.same(queue.poll(8, false), 5);
        for (int c : new int[] {2, 3, 4, 5, 6, 7}) {
            Walkwatch x = with(c, 5, 2);
            Check.same(costsUse(x, c, () -> x.add(c, 2)), false);
            Check.same(x.add(c, 5), false);
            Check.same(x.size(c), 2);
            Check.same(costsUse(x, c, () -> x.add(c, 7)), true);
        }
        for (int map : MAPS) {
            Walkwatch x = with(map, 5, 6);
            Check.same(x.ask(map, 5), 0);
            x.put(map, 6, 8);
            x.put(map, 5, 8);
            Check.same(x.add(map, 6), false);
            Check.same(x.put(map, 5, 8), true);
            Check.same(x.ask(map, 6), 8);
        }
        for (int c : ALL) {
            Walkwatch x = full(c);
            Check.isRefused(x, STATE, () -> x.add(c, 40));
            Check.isRefused(x, ARGUMENT, () -> x.add(c, 100));
            Check.isRefused(x, ARGUMENT, () -> x.add(c, -1));
            if (c >= 2 && c != 8) {
                Check.same(x.add(c, 39), false);
            } else {
                Check.isRefused(x, STATE, () -> x.add(c, 39));
            }
            x.drop(c, 0);
            Check.same(x.add(c, 99), true);
        }
        needsNumber(8, (x, c) -> x.add(c, -1));
    }

    static void promise03AddOfKeyThatIsThereRenewsIt() {
        Walkwatch x = with(3, 1, 2, 3);
        x.put(3, 3, 30);
        Check.same(costsUse(x, 3, () -> x.add(3, 3)), false);
        Check.same(costsUse(x, 3, () -> x.add(3, 1)), true);
        holds(x, 3, 2, 3, 1);
        values(x, 3, 0, 30, 0);
        Walkwatch y = with(2, 1, 2, 3);
        Check.same(costsUse(y, 2, () -> y.add(2, 1)), false);
        holds(y, 2, 1, 2, 3);
        Walkwatch z = with(7, 1, 2, 3);
        Check.same(costsUse(z, 7, () -> z.add(7, 1)), false);
        holds(z, 7, 1, 2, 3);
    }

    static void promise04Insert() {
        for (int list : LISTS) {
            Walkwatch x = with(list, 1, 2);
            Check.same(x.insert(list, 0, 7), 3);
            Check.same(x.insert(list, 3, 8), 4);
            Check.same(x.insert(list, 2, 9), 5);
            holds(x, list, 7, 1, 9, 2, 8);
            Check.isRefused(x, NONE, () -> x.insert(list, -1, 100));
            Check.isRefused(x, NONE, () -> x.insert(list, 6, 1));
            Check.isRefused(x, ARGUMENT, () -> x.insert(list, 0, 100));
            Check.isRefused(x, ARGUMENT, () -> x.insert(list, 0, -1));
            Check.same(costsUse(x, list, () -> x.insert(list, 5, 0)), true);
            Walkwatch y = full(list);
            Check.isRefused(y, STATE, () -> y.insert(list, 40, 99));
            Check.isRefused(y, NONE, () -> y.insert(list, 41, 99));
            Check.isRefused(y, ARGUMENT, () -> y.insert(list, 0, 100));
            y.takeAt(list, 39);
            Check.same(y.insert(list, 39, 99), 40);
        }
        isUnsupportedFor(NO_LISTS, (x, c) -> x.insert(c, -1, -1));
        needsNumber(8, (x, c) -> x.insert(c, 0, 1));
    }

    static void promise05Put() {
        for (int map : MAPS) {
            Walkwatch x = new Walkwatch();
            Check.same(x.put(map, 5, 50), false);
            Check.same(x.put(map, 3, 30), false);
            Check.same(x.put(map, 3, 31), true);
            Check.same(x.put(map, 5, 99), true);
            Check.same(x.size(map), 2);
            Check.same(x.ask(map, 3), 31);
            Check.same(x.ask(map, 5), 99);
            Check.isRefused(x, ARGUMENT, () -> x.put(map, 100, 1));
            Check.isRefused(x, ARGUMENT, () -> x.put(map, -1, 1));
            Check.isRefused(x, ARGUMENT, () -> x.put(map, 1, 100));
            Check.isRefused(x, ARGUMENT, () -> x.put(map, 5, -1));
            Check.same(costsUse(x, map, () -> x.put(map, 6, 1)), true);
            Walkwatch y = full(map);
            Check.isRefused(y, STATE, () -> y.put(map, 40, 1));
            Check.isRefused(y, ARGUMENT, () -> y.put(map, 40, 100));
            Check.same(costsUse(y, map, () -> y.put(map, 39, 1)), false);
            Check.same(costsUse(y, map, () -> y.put(map, 1, 1)), map == 3);
            y.drop(map, 0);
            Check.same(y.put(map, 99, 1), false);
            Check.same(y.size(map), 40);
        }
        Walkwatch x = with(2, 1, 2);
        x.put(2, 1, 9);
        holds(x, 2, 1, 2);
        values(x, 2, 9, 0);
        Walkwatch y = with(3, 1, 2);
        y.put(3, 1, 9);
        holds(y, 3, 2, 1);
        values(y, 3, 0, 9);
        isUnsupportedFor(NO_MAPS, (z, c) -> z.put(c, -1, 0));
        needsNumber(8, (z, c) -> z.put(c, 1, 1));
    }

    static void promise06Set() {
        for (int list : LISTS) {
            Walkwatch x = with(list, 1, 2, 3);
            Check.same(costsUse(x, list, () -> x.set(list, 2, 9)), false);
            Check.same(x.set(list, 2, 8), 9);
            Check.same(x.set(list, 0, 0), 1);
            holds(x, list, 0, 2, 8);
            Check.isRefused(x, NONE, () -> x.set(list, 3, 100));
            Check.isRefused(x, NONE, () -> x.set(list, -1, 1));
            Check.isRefused(x, ARGUMENT, () -> x.set(list, 0, 100));
            Check.isRefused(x, ARGUMENT, () -> x.set(list, 0, -1));
        }
        isUnsupportedFor(NO_LISTS, (x, c) -> x.set(c, 5, 1));
        needsNumber(8, (x, c) -> x.set(c, 0, 1));
    }

    static void promise07Get() {
        for (int list : LISTS) {
            Walkwatch x = with(list, 4, 5);
            Check.same(x.get(list, 0), 4);
            Check.same(x.get(list, 1), 5);
            Check.same(costsUse(x, list, () -> x.get(list, 1)), false);
            Check.isRefused(x, NONE, () -> x.get(list, 2));
            Check.isRefused(x, NONE, () -> x.get(list, -1));
        }
        isUnsupportedFor(NO_LISTS, (x, c) -> x.get(c, 0));
        needsNumber(8, (x, c) -> x.get(c, 0));
    }

    static void promise08Ask() {
        for (int map : MAPS) {
            Walkwatch x = with(map, 1, 2);
            x.put(map, 1, 10);
            x.put(map, 2, 20);
            Check.same(costsUse(x, map, () -> x.ask(map, 1)), map == 3);
            Check.isRefused(x, NONE, () -> x.ask(map, 3));
            Check.isRefused(x, NONE, () -> x.ask(map, -1));
            Check.isRefused(x, NONE, () -> x.ask(map, 100));
            if (map == 3) {
                Check.isRefused(x, UNSUPPORTED, () -> x.ask(3, 1));
                holds(x, 3, 2, 1);
                values(x, 3, 20, 10);
            } else {
                Check.same(x.ask(map, 1), 10);
            }
            Check.same(x.ask(map, 2), 20);
            Walkwatch none = new Walkwatch();
            Check.isRefused(none, NONE, () -> none.ask(map, 0));
        }
        isUnsupportedFor(NO_MAPS, (x, c) -> x.ask(c, 1));
        needsNumber(8, (x, c) -> x.ask(c, 1));
    }

    static void promise09Has() {
        for (int c : ALL) {
            Walkwatch x = with(c, 3, 7);
            Check.same(x.has(c, 3), true);
            Check.same(x.has(c, 7), true);
            Check.same(x.has(c, 0), false);
            Check.same(x.has(c, -1), false);
            Check.same(x.has(c, 100), false);
            if (c != 8) {
                Check.same(costsUse(x, c, () -> x.has(c, 3)), false);
            }
            Check.same(new Walkwatch().has(c, 0), false);
        }
        needsNumber(8, (x, c) -> x.has(c, 1));
    }

    static void promise10Drop() {
        for (int c : ALL) {
            Walkwatch x = with(c, 3, 7);
            Check.same(x.drop(c, 5), false);
            Check.same(x.drop(c, -1), false);
            Check.same(x.drop(c, 3), true);
            Check.same(x.drop(c, 3), false);
            Check.same(x.size(c), 1);
            Check.same(x.has(c, 7), true);
            if (c != 8) {
                x.add(c, 9);
                Check.same(costsUse(x, c, () -> x.drop(c, 8)), false);
                Check.same(costsUse(x, c, () -> x.drop(c, 9)), true);
            }
        }
        for (int list : LISTS) {
            Walkwatch x = with(list, 1, 2, 1);
            Check.same(x.drop(list, 1), true);
            holds(x, list, 2, 1);
        }
        Walkwatch queue = with(8, 4, 4);
        queue.drop(8, 4);
        Check.same(queue.size(8), 1);
        Walkwatch map = with(2, 1, 2, 3);
        map.put(2, 3, 33);
        map.drop(2, 2);
        values(map, 2, 0, 33);
        needsNumber(8, (x, c) -> x.drop(c, 1));
    }

    static void promise11TakeAt() {
        for (int list : LISTS) {
            Walkwatch x = with(list, 4, 5, 6);
            Check.same(x.takeAt(list, 1), 5);
            holds(x, list, 4, 6);
            Check.isRefused(x, NONE, () -> x.takeAt(list, 2));
            Check.isRefused(x, NONE, () -> x.takeAt(list, -1));
            Check.same(costsUse(x, list, () -> x.takeAt(list, 1)), true);
            Check.same(x.takeAt(list, 0), 4);
        }
        isUnsupportedFor(NO_LISTS, (x, c) -> x.takeAt(c, 0));
        needsNumber(8, (x, c) -> x.takeAt(c, 0));
    }

    static void promise12Cut() {
        for (int list : LISTS) {
            Walkwatch x = with(list, 1, 2, 3, 4, 5);
            Check.same(x.cut(list, 1, 2), 3);
            holds(x, list, 1, 4, 5);
            Check.isRefused(x, ARGUMENT, () -> x.cut(list, 9, 0));
            Check.isRefused(x, ARGUMENT, () -> x.cut(list, 0, -1));
            Check.isRefused(x, NONE, () -> x.cut(list, 0, 4));
            Check.isRefused(x, NONE, () -> x.cut(list, -1, 1));
            Check.isRefused(x, NONE, () -> x.cut(list, 3, 1));
            Check.isRefused(x, NONE, () -> x.cut(list, 2, Integer.MAX_VALUE));
            Check.isRefused(x, NONE, () -> x.cut(list, Integer.MAX_VALUE, 2));
            Check.same(costsUse(x, list, () -> x.cut(list, 2, 1)), true);
            Check.same(x.cut(list, 0, 2), 0);
        }
        isUnsupportedFor(NO_LISTS, (x, c) -> x.cut(c, 0, 0));
        needsNumber(8, (x, c) -> x.cut(c, 0, 1));
    }

    static void promise13Poll() {
        for (int c : new int[] {1, 4, 6}) {
            Walkwatch x = with(c, 1, 2, 3, 4);
            Check.same(x.poll(c, false), 1);
            Check.same(x.poll(c, true), 4);
            Check.same(costsUse(x, c, () -> x.poll(c, true)), true);
            Check.same(x.poll(c, true), 2);
            Check.isRefused(x, NONE, () -> x.poll(c, true));
            Check.isRefused(x, NONE, () -> x.poll(c, false));
        }
        Walkwatch unordered = with(1, 7, 3, 9);
        Check.same(unordered.poll(1, false), 7);
        Check.same(unordered.poll(1, true), 9);
        Walkwatch queue = with(8, 5, 3, 9, 3);
        Check.isRefused(queue, UNSUPPORTED, () -> queue.poll(8, true));
        Check.same(queue.poll(8, false), 3);
        Check.same(queue.poll(8, false), 3);
        Check.same(queue.poll(8, false), 5);
        Check.same(queue.poll(8, false), 9);
        Check.isRefused(queue, NONE, () -> queue.poll(8, false));
        Check.isRefused(queue, UNSUPPORTED, () -> queue.poll(8, true));
        isUnsupportedFor(new int[] {0, 2, 3, 5, 7}, (x, c) -> x.poll(c, false));
        Check.isThrown(UNSUPPORTED, () -> new Walkwatch().poll(0, true));
        needsNumber(8, (x, c) -> x.poll(c, false));
    }

    static void promise14Clear() {
        for (int c : ALL) {
            Walkwatch x = with(c, 1, 2, 3);
            Check.same(x.clear(c), 3);
            Check.same(x.size(c), 0);
            Check.same(x.clear(c), 0);
            x.add(c, 5);
            if (c != 8) {
                Check.same(costsUse(x, c, () -> x.clear(c)), true);
            }
        }
        for (int list : LISTS) {
            Walkwatch none = new Walkwatch();
            none.begin(0, list, 'l');
            none.clear(list);
            Check.same(none.lay(0, 4), 1);
        }
        needsNumber(8, (x, c) -> x.clear(c));
    }

    static void promise15AddAll() {
        for (int list : LISTS) {
            Walkwatch x = with(list, 9);
            int other = 1 - list;
            x.add(other, 4);
            x.add(other, 3);
            Check.same(x.addAll(list, other), 3);
            holds(x, list, 9, 4, 3);
            holds(x, other, 4, 3);
            for (int c : new int[] {2, 3, 4, 6, 7}) {
                Walkwatch y = with(list, 9);
                y.add(c, 6);
                y.add(c, 1);
                Check.same(y.addAll(list, c), 3);
                holds(y, list, 9, c == 4 || c == 6 ? 1 : 6, c == 4 || c == 6 ? 6 : 1);
            }
            Check.same(costsUse(x, list, () -> x.addAll(list, 7)), false);
            Check.same(costsUse(x, other, () -> x.addAll(list, other)), false);
            Check.same(costsUse(x, list, () -> x.addAll(list, other)), true);
            Check.isRefused(x, UNSUPPORTED, () -> x.addAll(list, list));
            Check.isRefused(x, UNSUPPORTED, () -> x.addAll(list, 5));
            Check.isRefused(x, UNSUPPORTED, () -> x.addAll(list, 8));
            Check.isRefused(x, INDEX, () -> x.addAll(list, 9));
            Check.isRefused(x, INDEX, () -> x.addAll(2, -1));
            Walkwatch y = full(list);
            Check.same(y.addAll(list, other), 40);
            y.add(other, 1);
            Check.isRefused(y, STATE, () -> y.addAll(list, other));
            y.drop(list, 0);
            Check.same(y.addAll(list, other), 40);
        }
        Walkwatch asked = with(3, 1, 2, 3);
        Check.same(costsUse(asked, 3, () -> asked.addAll(0, 3)), false);
        isUnsupportedFor(NO_LISTS, (x, c) -> x.addAll(c, 0));
        needsNumber(8, (x, c) -> x.addAll(c, 0));
    }

    static void promise16Sweep() {
        for (int c : ALL) {
            Walkwatch x = with(c, 0, 1, 2, 4, 5, 7, 8);
            Check.same(x.sweep(c, 9, 3), 0);
            Check.same(x.sweep(c, 2, 2), 0);
            Check.same(x.sweep(c, 3, 1), 3);
            for (int thing = 0; thing < 9; thing++) {
                Check.same(x.has(c, thing), thing % 3 != 1 && thing != 3 && thing != 6);
            }
            Check.same(x.sweep(c, 9, 8), 1);
            if (c != 8) {
                Check.same(costsUse(x, c, () -> x.sweep(c, 2, 3)), false);
                Check.same(costsUse(x, c, () -> x.sweep(c, 9, 5)), true);
            }
            Check.same(x.sweep(c, 1, 0), c == 8 ? 3 : 2);
            Check.same(x.size(c), 0);
            Check.same(x.sweep(c, 1, 0), 0);
            Check.isRefused(x, ARGUMENT, () -> x.sweep(c, 0, 0));
            Check.isRefused(x, ARGUMENT, () -> x.sweep(c, 10, 0));
            Check.isRefused(x, ARGUMENT, () -> x.sweep(c, 1, -1));
            Check.isRefused(x, ARGUMENT, () -> x.sweep(c, 1, 9));
        }
        Walkwatch x = with(0, 6, 6, 1, 6);
        Check.same(x.sweep(0, 6, 0), 3);
        holds(x, 0, 1);
        needsNumber(8, (y, c) -> y.sweep(c, 0, 0));
    }

    static void promise17Begin() {
        String[] kinds = {"kl", "kl", "kve", "kve", "kved", "kve", "k", "k", ""};
        for (int c : ALL) {
            for (char kind : "kvedl".toCharArray()) {
                Walkwatch x = new Walkwatch();
                if (kinds[c].indexOf(kind) < 0) {
                    Check.isRefused(x, UNSUPPORTED, () -> x.begin(0, c, kind));
                    continue;
                }
                Check.same(x.begin(0, c, kind), true);
                x.add(c, 1);
                Check.same(x.begin(7, c, kind), false);
                Check.same(x.kindOf(7), kind);
            }
            for (char kind : new char[] {'s', '-', 'x', 'K', 0, (char) 255}) {
                Walkwatch x = new Walkwatch();
                Check.isRefused(x, ARGUMENT, () -> x.begin(0, c, kind));
            }
        }
        Walkwatch x = with(0, 1, 2);
        x.begin(0, 0, 'l');
        x.step(0);
        Check.same(x.begin(0, 0, 'k'), false);
        Check.same(x.kindOf(0), 'k');
        Check.same(x.answered(0), 0);
        Check.same(x.step(0), 1);
        Check.isRefused(x, UNSUPPORTED, () -> x.begin(0, 8, 'k'));
        needsNumber(7, (y, w) -> y.begin(w, 0, 'x'));
        needsNumber(8, (y, c) -> y.begin(0, c, 'x'));
    }

    static void promise18BeginAt() {
        for (int list : LISTS) {
            Walkwatch x = with(list, 1, 2, 3);
            Check.same(x.beginAt(0, list, 3), true);
            Check.same(x.place(0), 3);
            Check.same(x.back(0), 3);
            Check.same(x.beginAt(0, list, 0), false);
            Check.same(x.step(0), 1);
            Check.same(x.beginAt(0, list, 1), false);
            Check.same(x.step(0), 2);
            Check.same(x.kindOf(0), 'l');
            Check.isRefused(x, NONE, () -> x.beginAt(0, list, 4));
            Check.isRefused(x, NONE, () -> x.beginAt(0, list, -1));
            Check.same(new Walkwatch().beginAt(1, list, 0), true);
        }
        isUnsupportedFor(NO_LISTS, (x, c) -> x.beginAt(0, c, 9));
        needsNumber(7, (x, w) -> x.beginAt(w, 0, 0));
        needsNumber(8, (x, c) -> x.beginAt(0, c, 0));
    }

    static void promise19BeginSpan() {
        Walkwatch x = with(4, 2, 5, 8);
        Check.same(x.beginSpan(0, 2, 8), false);
        Check.same(x.kindOf(0), 's');
        Check.same(x.step(0), 2);
        Check.same(x.isAtEnd(0), false);
        Check.same(x.step(0), 5);
        Check.same(x.isAtEnd(0), true);
        Check.isRefused(x, NONE, () -> x.step(0));
        Check.same(x.beginSpan(0, 3, 5), true);
        Check.same(x.beginSpan(0, 5, 5), true);
        Check.same(x.beginSpan(0, 9, 99), true);
        Check.same(x.beginSpan(0, Integer.MIN_VALUE, 2), true);
        Check.same(x.beginSpan(0, Integer.MIN_VALUE, Integer.MAX_VALUE), false);
        Check.same(x.step(0) + x.step(0) + x.step(0), 15);
        Check.same(x.isAtEnd(0), true);
        Check.isRefused(x, ARGUMENT, () -> x.beginSpan(0, 3, 2));
        Check.isRefused(x, ARGUMENT, () -> x.beginSpan(0, Integer.MAX_VALUE, Integer.MIN_VALUE));
        Check.same(new Walkwatch().beginSpan(7, 0, 99), true);
        needsNumber(7, (y, w) -> y.beginSpan(w, 2, 1));
    }

    static void promise20Step() {
        for (int list : LISTS) {
            Walkwatch x = with(list, 3, 1);
            for (char kind : new char[] {'k', 'l'}) {
                x.begin(0, list, kind);
                Check.same(x.step(0), 3);
                Check.same(x.step(0), 1);
                Check.isRefused(x, NONE, () -> x.step(0));
            }
        }
        Walkwatch map = new Walkwatch();
        map.put(4, 3, 30);
        map.put(4, 1, 10);
        map.begin(0, 4, 'k');
        map.begin(1, 4, 'v');
        map.begin(2, 4, 'e');
        map.begin(3, 4, 'd');
        Check.same(map.step(0), 1);
        Check.same(map.step(1), 10);
        Check.same(map.step(2), 110);
        Check.same(map.step(3), 3);
        map.put(4, 3, 33);
        Check.same(map.step(0), 3);
        Check.same(map.step(1), 33);
        Check.same(map.step(2), 333);
        Check.same(map.step(3), 1);
        Check.isRefused(map, NONE, () -> map.step(3));
        map.put(5, 50, 5);
        map.put(5, 40, 5);
        for (char kind : new char[] {'k', 'v', 'e'}) {
            map.begin(4, 5, kind);
            Check.same(map.step(4), 1);
            Check.same(map.step(4), 2);
            Check.isRefused(map, NONE, () -> map.step(4));
        }
        needsNumber(7, (x, w) -> x.step(w));
        Check.isThrown(NONE, () -> new Walkwatch().step(0));
    }

    static void promise20StepOfNoUse() {
        for (int c : WALKED) {
            Walkwatch x = with(c, 3, 1, 4);
            x.begin(0, c, 'k');
            x.begin(1, c, 'k');
            x.step(0);
            x.step(1);
            x.step(1);
            x.step(1);
            x.drop(c, 4);
            x.add(c, 4);
            Check.isRefused(x, CHANGED, () -> x.step(0));
            Check.isRefused(x, CHANGED, () -> x.step(0));
            Check.isRefused(x, NONE, () -> x.step(1));
            Check.same(x.answered(0), 1);
        }
        Walkwatch x = with(4, 1, 2, 3);
        x.beginSpan(0, 1, 3);
        x.beginSpan(1, 1, 2);
        x.step(1);
        x.add(4, 50);
        Check.isRefused(x, STATE, () -> x.step(0));
        Check.isRefused(x, NONE, () -> x.step(1));
        Walkwatch other = with(0, 1);
        other.begin(0, 0, 'k');
        other.add(1, 1);
        Check.same(other.step(0), 1);
    }

    static void promise21StepChange() {
        for (int map : new int[] {2, 3, 4}) {
            Walkwatch x = new Walkwatch();
            x.put(map, 1, 10);
            x.put(map, 2, 20);
            x.begin(0, map, 'e');
            x.begin(1, map, 'k');
            Check.isRefused(x, ARGUMENT, () -> x.stepChange(0, 100));
            Check.isRefused(x, ARGUMENT, () -> x.stepChange(0, -1));
            Check.isRefused(x, UNSUPPORTED, () -> x.stepChange(1, 100));
            Check.same(x.stepChange(0, 99), 110);
            Check.same(x.stepChange(0, 0), 220);
            Check.same(x.answered(0), 2);
            values(x, map, 99, 0);
            holds(x, map, 1, 2);
            Check.same(x.step(1), 1);
            Check.isRefused(x, NONE, () -> x.stepChange(0, 100));
            x.begin(0, map, 'e');
            x.add(map, 3);
            Check.isRefused(x, CHANGED, () -> x.stepChange(0, 1));
            Check.isRefused(x, ARGUMENT, () -> x.stepChange(0, 100));
        }
        Walkwatch x = with(5, 1);
        x.begin(0, 5, 'e');
        Check.isRefused(x, UNSUPPORTED, () -> x.stepChange(0, 100));
        x.step(0);
        Check.isRefused(x, NONE, () -> x.stepChange(0, 1));
        x.add(4, 1);
        x.begin(1, 4, 'v');
        Check.isRefused(x, UNSUPPORTED, () -> x.stepChange(1, 1));
        x.add(4, 2);
        Check.isRefused(x, UNSUPPORTED, () -> x.stepChange(1, 1));
        Check.isRefused(x, NONE, () -> x.stepChange(2, 1));
        needsNumber(7, (y, w) -> y.stepChange(w, 1));
    }

    static void promise22Back() {
        for (int list : LISTS) {
            Walkwatch x = with(list, 1, 2);
            x.beginAt(0, list, 2);
            Check.same(x.isAtEnd(0), true);
            Check.same(x.back(0), 2);
            Check.same(x.isAtEnd(0), false);
            Check.same(x.back(0), 1);
            Check.same(x.answered(0), 2);
            Check.isRefused(x, NONE, () -> x.back(0));
            Check.same(x.step(0), 1);
            x.begin(1, list, 'l');
            x.add(list, 3);
            Check.isRefused(x, CHANGED, () -> x.back(0));
            Check.isRefused(x, NONE, () -> x.back(1));
            x.begin(2, list, 'k');
            Check.isRefused(x, UNSUPPORTED, () -> x.back(2));
            x.step(2);
            x.add(list, 4);
            Check.isRefused(x, UNSUPPORTED, () -> x.back(2));
            Check.isRefused(x, NONE, () -> x.back(3));
        }
        Walkwatch down = with(4, 1);
        down.begin(0, 4, 'd');
        Check.isRefused(down, UNSUPPORTED, () -> down.back(0));
        needsNumber(7, (x, w) -> x.back(w));
    }

    static void promise23Take() {
        for (int c : WALKED) {
            if (c == 5) {
                continue;
            }
            Walkwatch x = with(c, 1, 2, 3);
            x.begin(0, c, 'k');
            x.begin(1, c, 'k');
            Check.isRefused(x, STATE, () -> x.take(0));
            x.step(0);
            x.step(0);
            x.step(1);
            Check.same(x.take(0), 2);
            Check.isRefused(x, STATE, () -> x.take(0));
            holds(x, c, 1, 3);
            Check.isRefused(x, CHANGED, () -> x.take(1));
            Check.isRefused(x, CHANGED, () -> x.step(1));
            Check.same(x.step(0), 3);
            Check.same(x.take(0), 1);
            Check.same(x.answered(0), 3);
            x.add(c, 9);
            Check.isRefused(x, STATE, () -> x.take(0));
        }
        Walkwatch hash = with(5, 1);
        hash.begin(0, 5, 'k');
        Check.isRefused(hash, UNSUPPORTED, () -> hash.take(0));
        hash.step(0);
        Check.isRefused(hash, UNSUPPORTED, () -> hash.take(0));
        Check.isRefused(hash, NONE, () -> hash.take(1));
        needsNumber(7, (x, w) -> x.take(w));
    }

    static void promise23TakeByOtherKinds() {
        Walkwatch x = with(4, 1, 2, 3, 4);
        x.begin(0, 4, 'd');
        x.step(0);
        x.step(0);
        Check.same(x.take(0), 3);
        Check.same(x.step(0), 2);
        Check.same(x.take(0), 2);
        Check.same(x.step(0), 1);
        holds(x, 4, 1, 4);
        x.add(4, 2);
        x.beginSpan(0, 2, 4);
        Check.same(x.step(0), 2);
        Check.same(x.take(0), 2);
        Check.same(x.isAtEnd(0), true);
        for (char kind : new char[] {'v', 'e'}) {
            Walkwatch y = new Walkwatch();
            y.put(2, 1, 11);
            y.put(2, 2, 22);
            y.begin(0, 2, kind);
            y.step(0);
            Check.same(y.take(0), 1);
            holds(y, 2, 2);
            values(y, 2, 22);
        }
        for (int list : LISTS) {
            Walkwatch y = with(list, 1, 2, 3);
            y.beginAt(0, list, 2);
            y.back(0);
            Check.same(y.take(0), 2);
            Check.same(y.place(0), 1);
            Check.same(y.step(0), 3);
            Check.same(y.back(0), 3);
            Check.same(y.take(0), 1);
            Check.same(y.isAtEnd(0), true);
            Check.same(y.back(0), 1);
            y.lay(0, 8);
            Check.isRefused(y, STATE, () -> y.take(0));
        }
    }

    static void promise24Lay() {
        for (int list : LISTS) {
            Walkwatch x = with(list, 1, 2);
            x.begin(0, list, 'l');
            x.begin(1, list, 'l');
            x.step(0);
            x.step(1);
            Check.same(x.lay(0, 7), 2);
            Check.same(x.lay(0, 8), 3);
            holds(x, list, 1, 7, 8, 2);
            Check.same(x.answered(0), 1);
            Check.isRefused(x, CHANGED, () -> x.lay(1, 9));
            Check.isRefused(x, ARGUMENT, () -> x.lay(1, 100));
            Check.isRefused(x, STATE, () -> x.take(0));
            Check.isRefused(x, STATE, () -> x.change(0, 1));
            Check.same(x.step(0), 2);
            Check.same(x.lay(0, 9), 5);
            Check.same(x.isAtEnd(0), true);
            Check.same(x.back(0), 9);
            Check.isRefused(x, ARGUMENT, () -> x.lay(0, 100));
            Check.isRefused(x, ARGUMENT, () -> x.lay(0, -1));
            x.begin(2, list, 'k');
            Check.isRefused(x, UNSUPPORTED, () -> x.lay(2, 100));
            Check.isRefused(x, NONE, () -> x.lay(3, 100));
            Walkwatch y = full(list);
            y.begin(0, list, 'l');
            Check.isRefused(y, STATE, () -> y.lay(0, 1));
            Check.isRefused(y, ARGUMENT, () -> y.lay(0, 100));
            y.drop(list, 0);
            Check.isRefused(y, CHANGED, () -> y.lay(0, 1));
            y.add(list, 0);
            Check.isRefused(y, STATE, () -> y.lay(0, 1));
        }
        needsNumber(7, (x, w) -> x.lay(w, 100));
    }

    static void promise25Change() {
        for (int list : LISTS) {
            Walkwatch x = with(list, 1, 2);
            x.begin(0, list, 'l');
            x.begin(1, list, 'k');
            Check.isRefused(x, STATE, () -> x.change(0, 5));
            Check.isRefused(x, ARGUMENT, () -> x.change(0, 100));
            Check.isRefused(x, ARGUMENT, () -> x.change(0, -1));
            x.step(0);
            Check.same(x.change(0, 5), 1);
            Check.same(x.change(0, 6), 1);
            Check.same(x.step(1), 6);
            x.step(0);
            x.back(0);
            Check.same(x.change(0, 9), 1);
            holds(x, list, 6, 9);
            Check.same(x.answered(0), 3);
            Check.isRefused(x, UNSUPPORTED, () -> x.change(1, 100));
            Check.same(x.take(0), 1);
            Check.isRefused(x, STATE, () -> x.change(0, 5));
            x.back(0);
            x.add(list, 3);
            Check.isRefused(x, CHANGED, () -> x.change(0, 5));
            Check.isRefused(x, ARGUMENT, () -> x.change(0, 100));
            x.begin(0, list, 'l');
            x.add(list, 3);
            Check.isRefused(x, STATE, () -> x.change(0, 5));
            Check.isRefused(x, NONE, () -> x.change(3, 100));
        }
        needsNumber(7, (x, w) -> x.change(w, 100));
    }

    static void promise26Place() {
        for (int list : LISTS) {
            Walkwatch x = with(list, 1, 2, 3);
            x.begin(0, list, 'l');
            Check.same(x.place(0), 0);
            x.step(0);
            x.step(0);
            Check.same(x.place(0), 2);
            x.back(0);
            Check.same(x.place(0), 1);
            x.clear(list);
            Check.same(x.place(0), 1);
            Check.isThrown(CHANGED, () -> x.step(0));
            Check.same(x.place(0), 1);
            x.begin(1, list, 'k');
            Check.isRefused(x, UNSUPPORTED, () -> x.place(1));
            Check.isRefused(x, NONE, () -> x.place(2));
        }
        needsNumber(7, (x, w) -> x.place(w));
    }

    static void promise27IsAtEnd() {
        for (int c : WALKED) {
            Walkwatch x = with(c, 1);
            x.begin(0, c, 'k');
            x.begin(1, c, 'k');
            Check.same(x.isAtEnd(0), false);
            x.step(0);
            Check.same(x.isAtEnd(0), true);
            x.add(c, 2);
            Check.same(x.isAtEnd(0), true);
            x.clear(c);
            Check.same(x.isAtEnd(1), false);
            Check.isThrown(CHANGED, () -> x.step(1));
            Check.same(x.isAtEnd(1), false);
            Check.isRefused(x, NONE, () -> x.isAtEnd(2));
        }
        needsNumber(7, (x, w) -> x.isAtEnd(w));
    }

    static void promise28Answered() {
        Walkwatch x = with(0, 1, 2);
        x.begin(0, 0, 'l');
        Check.same(x.answered(0), 0);
        x.step(0);
        x.back(0);
        x.step(0);
        Check.same(x.answered(0), 3);
        x.take(0);
        x.lay(0, 4);
        Check.same(x.answered(0), 3);
        x.step(0);
        Check.isThrown(NONE, () -> x.step(0));
        Check.same(x.answered(0), 4);
        Check.isRefused(x, NONE, () -> x.answered(1));
        needsNumber(7, (y, w) -> y.answered(w));
    }

    static void promise29End() {
        Walkwatch x = with(0, 1, 2);
        x.begin(0, 0, 'k');
        x.step(0);
        Check.same(x.end(0), 1);
        Check.same(x.kindOf(0), '-');
        Check.isRefused(x, NONE, () -> x.end(0));
        Check.isRefused(x, NONE, () -> x.step(0));
        Check.isRefused(x, NONE, () -> x.take(0));
        Check.isRefused(x, NONE, () -> x.isAtEnd(0));
        x.begin(0, 0, 'k');
        Check.same(x.end(0), 0);
        needsNumber(7, (y, w) -> y.end(w));
    }

    static void promise30KindOf() {
        Walkwatch x = new Walkwatch();
        for (int w = 0; w < 5; w++) {
            x.begin(w, w == 4 ? 0 : 4, "kvedl".charAt(w));
            Check.same(x.kindOf(w), "kvedl".charAt(w));
        }
        x.beginSpan(5, 0, 0);
        x.beginAt(6, 1, 0);
        Check.same(x.kindOf(5), 's');
        Check.same(x.kindOf(6), 'l');
        Check.same(x.kindOf(7), '-');
        needsNumber(7, (y, w) -> y.kindOf(w));
    }

    static void promise31ThingAt() {
        for (int c : new int[] {0, 1, 2, 3, 4, 6, 7}) {
            Walkwatch x = with(c, 8, 3);
            boolean rises = c == 4 || c == 6;
            Check.same(x.thingAt(c, 0), rises ? 3 : 8);
            Check.same(x.thingAt(c, 1), rises ? 8 : 3);
            Check.same(costsUse(x, c, () -> x.thingAt(c, 0)), false);
            Check.isRefused(x, NONE, () -> x.thingAt(c, 2));
            Check.isRefused(x, NONE, () -> x.thingAt(c, -1));
        }
        isUnsupportedFor(new int[] {5, 8}, (x, c) -> x.thingAt(c, -1));
        needsNumber(8, (x, c) -> x.thingAt(c, 0));
    }

    static void promise32ValueAt() {
        for (int map : new int[] {2, 3, 4}) {
            Walkwatch x = new Walkwatch();
            x.put(map, 8, 80);
            x.put(map, 3, 30);
            Check.same(x.valueAt(map, 0), map == 4 ? 30 : 80);
            Check.same(x.valueAt(map, 1), map == 4 ? 80 : 30);
            Check.same(costsUse(x, map, () -> x.valueAt(map, 0)), false);
            Check.isRefused(x, NONE, () -> x.valueAt(map, 2));
            Check.isRefused(x, NONE, () -> x.valueAt(map, -1));
        }
        isUnsupportedFor(new int[] {0, 1, 5, 6, 7, 8}, (x, c) -> x.valueAt(c, -1));
        needsNumber(8, (x, c) -> x.valueAt(c, 0));
    }

    static void promise33Sum() {
        for (int c : ALL) {
            Check.same(new Walkwatch().sum(c), 0);
            Check.same(with(c, 99, 1, 50).sum(c), 150);
        }
        Walkwatch x = new Walkwatch();
        x.put(2, 1, 77);
        Check.same(x.sum(2), 1);
        needsNumber(8, (y, c) -> y.sum(c));
    }

    static void promise34EndShare() {
        Walkwatch x = with(0, 1);
        Check.isRefused(x, ArithmeticException.class, x::endShare);
        x.begin(0, 0, 'k');
        Check.same(x.endShare(), 0f);
        x.begin(1, 1, 'k');
        x.begin(7, 0, 'k');
        Check.same(x.endShare(), 1f / 3f);
        x.clear(0);
        x.add(1, 1);
        Check.same(x.endShare(), 1f / 3f);
        x.end(0);
        x.end(7);
        Check.same(x.endShare(), 1f);
        x.end(1);
        Check.isRefused(x, ArithmeticException.class, x::endShare);
    }

    static void promise35MeanSize() {
        Walkwatch x = new Walkwatch();
        Check.same(x.meanSize(), 0.0);
        x.add(0, 1);
        x.add(8, 1);
        Check.same(x.meanSize(), 2.0 / 9.0);
        for (int i = 0; i < 40; i++) {
            x.add(4, i);
        }
        Check.same(x.meanSize(), 42.0 / 9.0);
    }

    private static long codes(long... parts) {
        long code = 7;
        for (long part : parts) {
            code = 31 * code + part;
        }
        return code;
    }

    static void promise36Checksum() {
        Walkwatch x = new Walkwatch();
        Check.same(x.checksum(),
                codes(0, 0, 0, 0, 0, 0, 0, 0, 0, 0, 0, '-', '-', '-', '-', '-', '-', '-', '-'));
        x.add(0, 5);
        x.add(1, 6);
        x.put(2, 7, 70);
        x.put(3, 8, 80);
        x.put(4, 9, 90);
        x.put(5, 10, 99);
        x.add(5, 11);
        x.add(6, 12);
        x.add(7, 13);
        x.add(8, 14);
        x.add(8, 14);
        x.begin(0, 0, 'l');
        x.step(0);
        x.beginSpan(7, 0, 99);
        Check.same(x.checksum(), codes(1, 5, 1, 6, 1, 7, 70, 1, 8, 80, 1, 9, 90, 2, 21, 1, 12, 1, 13, 2, 28,
                'l', 1, 1, '-', '-', '-', '-', '-', '-', 's', 0, 0));
    }

    static void promise37IsTrue() {
        Check.same(new Walkwatch().isTrue(), true);
        Walkwatch x = new Walkwatch();
        for (int c : ALL) {
            for (int thing : new int[] {9, 3, 40, 3, 99, 0}) {
                x.add(c, thing);
            }
        }
        for (int w = 0; w <= 7; w++) {
            x.begin(w, w, 'k');
            x.step(w);
        }
        x.begin(1, 1, 'l');
        x.step(1);
        long before = x.checksum();
        Check.same(x.isTrue(), true);
        Check.same(x.checksum(), before);
        Check.same(x.step(0), 3);
        Check.same(x.change(1, 8), 1);
        Check.same(x.lay(1, 7), 2);
        Check.same(x.step(3), 40);
        Check.same(x.take(3), 4);
        Check.same(x.step(6), 3);
        Check.same(x.isTrue(), true);
    }
}
