/** Promises 17 to 30: a test of its own for each sentence that names a boundary case. */
final class WalkEdgesTest extends TestBase {
    private static final int LEAST = Integer.MIN_VALUE;
    private static final int GREATEST = Integer.MAX_VALUE;

    private WalkEdgesTest() {
    }

    public static void main(String[] args) {
        Check.runAll(WalkEdgesTest.class, "edge");
    }

    private interface OfKind {
        void run(int collection, char kind);
    }

    private static void forEachKind(OfKind call) {
        for (int c : WALKED) {
            for (char kind : KINDS[c].toCharArray()) {
                call.run(c, kind);
            }
        }
    }

    /** A collection with these things and a walk 0 of it, begun. */
    private static Walkwatch begun(int collection, char kind, int... things) {
        Walkwatch x = with(collection, things);
        x.begin(0, collection, kind);
        return x;
    }

    /** Like begun(), but the walk is of no use any more. */
    private static Walkwatch useless(int collection, char kind, int... things) {
        Walkwatch x = begun(collection, kind, things);
        x.add(collection, 77);
        return x;
    }

    private static Walkwatch stepped(int steps, Walkwatch x) {
        for (int i = 0; i < steps; i++) {
            x.step(0);
        }
        return x;
    }

    private static Walkwatch span(int low, int high, int... keys) {
        Walkwatch x = with(4, keys);
        x.beginSpan(0, low, high);
        return x;
    }

    private static Walkwatch uselessSpan(int low, int high, int... keys) {
        Walkwatch x = span(low, high, keys);
        x.add(4, 77);
        return x;
    }

    private static Walkwatch at(int list, int place, int... things) {
        Walkwatch x = with(list, things);
        x.beginAt(0, list, place);
        return x;
    }

    /** No walk was begun under the number: one was ended there, or none ever was. */
    private static void needsBegun(Twin.Call call) {
        Twin.refuses(NONE, Walkwatch::new, call);
        Twin.refuses(NONE, WalkEdgesTest::ended, call);
    }

    private static Walkwatch ended() {
        Walkwatch x = rich();
        x.end(0);
        return x;
    }

    /** The call takes a walk 0 that can turn alone. */
    private static void needsTurning(Twin.Call call) {
        forEachKind((c, kind) -> {
            if (kind != 'l') {
                Twin.refuses(UNSUPPORTED, () -> begun(c, kind), call);
                Twin.refuses(UNSUPPORTED, () -> begun(c, kind, 1, 2), call);
                Twin.refuses(UNSUPPORTED, () -> stepped(1, begun(c, kind, 1, 2)), call);
                Twin.refuses(UNSUPPORTED, () -> useless(c, kind, 1, 2), call);
            }
        });
        Twin.refuses(UNSUPPORTED, () -> span(0, 9, 1, 2), call);
        Twin.refuses(UNSUPPORTED, () -> uselessSpan(0, 9, 1, 2), call);
    }

    // ---- promise 17

    static void edge17LeastAndGreatestWalk() {
        for (int w = 0; w <= 7; w++) {
            Walkwatch x = with(0, 5);
            Check.same(x.begin(w, 0, 'k'), false);
            Check.same(x.step(w), 5);
            for (int other = 0; other <= 7; other++) {
                Check.same(x.kindOf(other), other == w ? 'k' : '-');
            }
        }
    }

    static void edge17NoSuchWalk() {
        needsWalk((x, w) -> x.begin(w, 0, 'k'));
    }

    static void edge17NoSuchCollection() {
        needsCollection((x, c) -> x.begin(0, c, 'k'));
        needsCollection((x, c) -> x.begin(7, c, 'k'));
    }

    static void edge17NoSuchKind() {
        for (int c : ALL) {
            for (char kind : new char[] {0, ' ', '-', 'K', 'j', 'm', 'c', 'f', 'u', 'w', 's', 127, 255, 0xffff}) {
                Twin.refuses(ARGUMENT, TestBase::rich, x -> x.begin(0, c, kind));
                Twin.refuses(ARGUMENT, Walkwatch::new, x -> x.begin(7, c, kind));
            }
        }
    }

    static void edge17NoKindsButFive() {
        for (int c : ALL) {
            Walkwatch x = rich();
            String before = Look.at(x);
            for (int code = 0; code <= 0xffff; code++) {
                char kind = (char) code;
                if ("kvedl".indexOf(kind) < 0) {
                    Check.isThrown(ARGUMENT, () -> x.begin(1, c, kind));
                }
            }
            Check.same(Look.at(x), before);
        }
    }

    static void edge17CollectionWithoutWalksOfThatKind() {
        for (int c : ALL) {
            for (char kind : "kvedl".toCharArray()) {
                if (KINDS[c].indexOf(kind) < 0) {
                    Twin.refuses(UNSUPPORTED, TestBase::rich, x -> x.begin(0, c, kind));
                    Twin.refuses(UNSUPPORTED, Walkwatch::new, x -> x.begin(7, c, kind));
                }
            }
        }
    }

    static void edge17FirstDocumentedOneOfSeveral() {
        needsWalk((x, w) -> x.begin(w, 9, '-'));
        needsWalk((x, w) -> x.begin(w, 0, '-'));
        needsWalk((x, w) -> x.begin(w, 8, 'k'));
        needsCollection((x, c) -> x.begin(0, c, '-'));
        Twin.refuses(ARGUMENT, TestBase::rich, x -> x.begin(0, 8, '-'));
        Twin.refuses(ARGUMENT, TestBase::rich, x -> x.begin(0, 8, 's'));
    }

    static void edge17AtItsEndIfThereIsNone() {
        forEachKind((c, kind) -> {
            Check.same(new Walkwatch().begin(0, c, kind), true);
            Check.same(with(c, 0).begin(0, c, kind), false);
            Check.same(full(c).begin(0, c, kind), false);
            Walkwatch x = full(c);
            x.clear(c);
            Check.same(x.begin(0, c, kind), true);
        });
    }

    static void edge17InPlaceOfTheOneThatWasThere() {
        forEachKind((c, kind) -> {
            Walkwatch x = rich();
            x.begin(0, c, kind);
            Check.same(x.kindOf(0), kind);
            Check.same(x.answered(0), 0);
            Check.same(x.isAtEnd(0), false);
            if (c != 5) {
                Check.isRefused(x, STATE, () -> x.take(0));
            }
            if (kind == 'l') {
                Check.same(x.place(0), 0);
                Check.isRefused(x, STATE, () -> x.change(0, 1));
                Check.isRefused(x, NONE, () -> x.back(0));
            }
        });
    }

    static void edge17InPlaceOfOneAtItsEnd() {
        forEachKind((c, kind) -> {
            Walkwatch x = stepped(2, begun(c, kind, 1, 2));
            Check.same(x.isAtEnd(0), true);
            Check.same(x.begin(0, c, kind), false);
            Check.same(x.isAtEnd(0), false);
            x.step(0);
            Check.same(x.answered(0), 1);
        });
    }

    static void edge17InPlaceOfOneThatIsOfNoUse() {
        forEachKind((c, kind) -> {
            Walkwatch x = useless(c, kind, 1, 2);
            x.begin(0, c, kind);
            x.step(0);
            x.step(0);
            x.step(0);
            Check.same(x.isAtEnd(0), true);
        });
    }

    static void edge17CostsNoOtherWalkItsUse() {
        forEachKind((c, kind) -> {
            Walkwatch x = begun(c, kind, 1, 2);
            x.begin(1, c, kind);
            x.begin(7, c, kind);
            x.step(0);
            x.step(1);
            x.step(7);
            Check.same(x.answered(0) + x.answered(1) + x.answered(7), 3);
        });
    }

    // ---- promise 18

    static void edge18FirstPlaceAndThePlaceBehindAll() {
        for (int list : LISTS) {
            Check.same(with(list, 1, 2, 3).beginAt(0, list, 0), false);
            Check.same(with(list, 1, 2, 3).beginAt(7, list, 2), false);
            Check.same(with(list, 1, 2, 3).beginAt(0, list, 3), true);
            Check.same(new Walkwatch().beginAt(0, list, 0), true);
            Check.same(full(list).beginAt(0, list, 39), false);
            Check.same(full(list).beginAt(0, list, 40), true);
        }
    }

    static void edge18NoSuchPlace() {
        for (int list : LISTS) {
            refusesEach(NONE, outside(0, 4), TestBase::rich, (x, place) -> x.beginAt(0, list, place));
            refusesEach(NONE, outside(0, 0), Walkwatch::new, (x, place) -> x.beginAt(0, list, place));
            refusesEach(NONE, outside(0, 40), () -> full(list), (x, place) -> x.beginAt(0, list, place));
        }
    }

    static void edge18StandsBetweenTwoThings() {
        for (int list : LISTS) {
            for (int place = 0; place <= 3; place++) {
                int before = place;
                Check.same(at(list, place, 7, 8, 9).place(0), place);
                if (place < 3) {
                    Check.same(at(list, place, 7, 8, 9).step(0), 7 + place);
                } else {
                    Twin.refuses(NONE, () -> at(list, before, 7, 8, 9), x -> x.step(0));
                }
                if (place > 0) {
                    Check.same(at(list, place, 7, 8, 9).back(0), 6 + place);
                } else {
                    Twin.refuses(NONE, () -> at(list, before, 7, 8, 9), x -> x.back(0));
                }
            }
        }
    }

    static void edge18HasAnsweredNothing() {
        for (int list : LISTS) {
            Check.same(at(list, 1, 7, 8).answered(0), 0);
            Check.same(at(list, 1, 7, 8).kindOf(0), 'l');
            Twin.refuses(STATE, () -> at(list, 1, 7, 8), x -> x.take(0));
            Twin.refuses(STATE, () -> at(list, 1, 7, 8), x -> x.change(0, 1));
            Walkwatch x = rich();
            x.beginAt(0, list, 2);
            Check.same(x.answered(0), 0);
            Check.isRefused(x, STATE, () -> x.take(0));
        }
    }

    static void edge18NoList() {
        needsOther(NO_LISTS, (x, c) -> x.beginAt(0, c, 0));
    }

    static void edge18NoSuchWalkOrCollection() {
        needsWalk((x, w) -> x.beginAt(w, 0, 0));
        needsCollection((x, c) -> x.beginAt(0, c, 0));
    }

    static void edge18FirstDocumentedOneOfSeveral() {
        needsWalk((x, w) -> x.beginAt(w, 9, -1));
        needsWalk((x, w) -> x.beginAt(w, 2, 0));
        needsWalk((x, w) -> x.beginAt(w, 0, -1));
        needsCollection((x, c) -> x.beginAt(0, c, -1));
        needsOther(NO_LISTS, (x, c) -> x.beginAt(0, c, -1));
        needsOther(NO_LISTS, (x, c) -> x.beginAt(0, c, 41));
    }

    static void edge18CostsNoOtherWalkItsUse() {
        for (int list : LISTS) {
            Walkwatch x = begun(list, 'l', 1, 2);
            x.beginAt(1, list, 1);
            x.beginAt(7, list, 2);
            Check.same(x.step(0), 1);
            Check.same(x.step(1), 2);
            Check.same(x.back(7), 2);
        }
    }

    // ---- promise 19

    static void edge19LeastKeyIsInItAndTheFirstOneBeyondIsNot() {
        Walkwatch x = span(10, 30, 9, 10, 11, 29, 30, 31);
        Check.same(x.step(0), 10);
        Check.same(x.step(0), 11);
        Check.same(x.isAtEnd(0), false);
        Check.same(x.step(0), 29);
        Check.same(x.isAtEnd(0), true);
    }

    static void edge19EmptySpan() {
        Check.same(with(4, 10, 11).beginSpan(0, 10, 10), true);
        Check.same(with(4, 10, 11).beginSpan(0, 0, 0), true);
        Check.same(with(4, 10, 11).beginSpan(0, LEAST, LEAST), true);
        Check.same(with(4, 10, 11).beginSpan(0, GREATEST, GREATEST), true);
        Twin.refuses(NONE, () -> span(10, 10, 10, 11), y -> y.step(0));
    }

    static void edge19SpanWithoutKeys() {
        Check.same(with(4, 10, 20).beginSpan(0, 11, 20), true);
        Check.same(with(4, 10, 20).beginSpan(0, 0, 10), true);
        Check.same(with(4, 10, 20).beginSpan(0, 21, 100), true);
        Check.same(with(4, 10, 20).beginSpan(0, 11, 21), false);
        Check.same(with(4, 10, 20).beginSpan(0, 10, 11), false);
    }

    static void edge19EmptyMapAndFullOne() {
        Check.same(new Walkwatch().beginSpan(0, 0, 100), true);
        Check.same(new Walkwatch().beginSpan(7, LEAST, GREATEST), true);
        Walkwatch x = full(4);
        Check.same(x.beginSpan(0, 0, 40), false);
        for (int i = 0; i < 40; i++) {
            Check.same(x.step(0), i);
        }
        Check.same(x.isAtEnd(0), true);
        Check.same(full(4).beginSpan(0, 39, 40), false);
        Check.same(full(4).beginSpan(0, 40, 99), true);
    }

    static void edge19LeastAndGreatestNumbers() {
        Check.same(span(LEAST, GREATEST, 0, 99).step(0), 0);
        Check.same(stepped(1, span(LEAST, GREATEST, 0, 99)).step(0), 99);
        Check.same(with(4, 0, 99).beginSpan(0, LEAST, 0), true);
        Check.same(with(4, 0, 99).beginSpan(0, LEAST, 1), false);
        Check.same(with(4, 0, 99).beginSpan(0, 99, GREATEST), false);
        Check.same(with(4, 0, 99).beginSpan(0, 100, GREATEST), true);
    }

    static void edge19EndsAheadOfItsBeginning() {
        Twin.refuses(ARGUMENT, TestBase::rich, x -> x.beginSpan(0, 11, 10));
        Twin.refuses(ARGUMENT, TestBase::rich, x -> x.beginSpan(7, 1, -1));
        Twin.refuses(ARGUMENT, TestBase::rich, x -> x.beginSpan(0, 0, -1));
        Twin.refuses(ARGUMENT, TestBase::rich, x -> x.beginSpan(0, 0, LEAST));
        Twin.refuses(ARGUMENT, TestBase::rich, x -> x.beginSpan(0, GREATEST, LEAST));
        Twin.refuses(ARGUMENT, TestBase::rich, x -> x.beginSpan(0, GREATEST, GREATEST - 1));
        Twin.refuses(ARGUMENT, TestBase::rich, x -> x.beginSpan(0, LEAST + 1, LEAST));
        Twin.refuses(ARGUMENT, Walkwatch::new, x -> x.beginSpan(0, 1, 0));
    }

    static void edge19NoSuchWalk() {
        needsWalk((x, w) -> x.beginSpan(w, 0, 99));
    }

    static void edge19NoSuchWalkAheadOfSpanThatEndsAheadOfItsBeginning() {
        needsWalk((x, w) -> x.beginSpan(w, 1, 0));
    }

    static void edge19CostsNoOtherWalkItsUse() {
        Walkwatch x = begun(4, 'k', 1, 2);
        x.beginSpan(1, 0, 9);
        x.beginSpan(2, 2, 9);
        Check.same(x.step(0), 1);
        Check.same(x.step(1), 1);
        Check.same(x.step(2), 2);
    }

    static void edge19InPlaceOfTheOneThatWasThere() {
        Walkwatch x = rich();
        x.beginSpan(0, 0, 99);
        Check.same(x.kindOf(0), 's');
        Check.same(x.answered(0), 0);
        Check.isRefused(x, STATE, () -> x.take(0));
        x.begin(0, 4, 'k');
        x.step(0);
        x.step(0);
        x.step(0);
        Check.same(x.isAtEnd(0), false);
        Check.same(x.step(0), 40);
    }

    // ---- promise 20

    static void edge20NoneBegun() {
        needsBegun(x -> x.step(0));
    }

    static void edge20NoSuchWalk() {
        needsWalk((x, w) -> x.step(w));
    }

    static void edge20AtItsEnd() {
        forEachKind((c, kind) -> {
            Twin.refuses(NONE, () -> begun(c, kind), x -> x.step(0));
            Twin.refuses(NONE, () -> stepped(1, begun(c, kind, 5)), x -> x.step(0));
            Twin.refuses(NONE, () -> stepped(40, fullBegun(c, kind)), x -> x.step(0));
        });
        Twin.refuses(NONE, () -> span(0, 9), x -> x.step(0));
        Twin.refuses(NONE, () -> stepped(1, span(0, 9, 5, 9)), x -> x.step(0));
    }

    private static Walkwatch fullBegun(int c, char kind) {
        Walkwatch x = full(c);
        x.begin(0, c, kind);
        return x;
    }

    static void edge20EachOfForty() {
        forEachKind((c, kind) -> {
            Walkwatch x = fullBegun(c, kind);
            for (int i = 0; i < 40; i++) {
                int key = kind == 'd' ? 39 - i : i;
                int due = c == 5 ? i + 1 : kind == 'v' ? 0 : kind == 'e' ? 100 * key : key;
                Check.same(x.isAtEnd(0), false);
                Check.same(x.step(0), due);
                Check.same(x.answered(0), i + 1);
            }
            Check.same(x.isAtEnd(0), true);
        });
    }

    static void edge20LeastAndGreatestEntry() {
        for (int map : TOLD_MAPS) {
            Walkwatch x = new Walkwatch();
            x.put(map, 0, 0);
            x.put(map, 1, 99);
            x.put(map, 99, 99);
            x.begin(0, map, 'e');
            x.begin(1, map, 'v');
            Check.same(x.step(0), 0);
            Check.same(x.step(0), 199);
            Check.same(x.step(0), 9999);
            Check.same(x.step(1), 0);
            Check.same(x.step(1), 99);
            Check.same(x.step(1), 99);
        }
    }

    static void edge20HowManyItHasAnsweredOfTheHashMap() {
        for (char kind : "kve".toCharArray()) {
            Walkwatch x = new Walkwatch();
            x.put(5, 50, 60);
            x.put(5, 70, 80);
            x.begin(0, 5, kind);
            Check.same(x.step(0), 1);
            Check.same(x.step(0), 2);
        }
    }

    static void edge20OfNoUse() {
        forEachKind((c, kind) -> {
            Twin.refuses(CHANGED, () -> useless(c, kind, 1, 2), x -> x.step(0));
            Walkwatch x = useless(c, kind, 1, 2);
            Check.isRefused(x, CHANGED, () -> x.step(0));
            Check.isRefused(x, CHANGED, () -> x.step(0));
        });
    }

    static void edge20SpanOfNoUse() {
        Twin.refuses(STATE, () -> uselessSpan(0, 9, 1, 2), x -> x.step(0));
        Twin.refuses(STATE, () -> uselessSpan(0, 99, 1), x -> x.step(0));
        Walkwatch x = uselessSpan(0, 9, 1, 2);
        Check.isRefused(x, STATE, () -> x.step(0));
        Check.isRefused(x, STATE, () -> x.step(0));
    }

    static void edge20AtItsEndAheadOfNoUse() {
        forEachKind((c, kind) -> {
            Twin.refuses(NONE, () -> useless(c, kind), x -> x.step(0));
            Walkwatch x = stepped(2, begun(c, kind, 1, 2));
            x.add(c, 3);
            Check.isRefused(x, NONE, () -> x.step(0));
            x.clear(c);
            Check.isRefused(x, NONE, () -> x.step(0));
        });
        Twin.refuses(NONE, () -> uselessSpan(0, 9), x -> x.step(0));
        Walkwatch x = stepped(1, span(0, 9, 1));
        x.add(4, 2);
        Check.isRefused(x, NONE, () -> x.step(0));
    }

    static void edge20NotAtItsEndThoughNoneIsThereAnyMore() {
        forEachKind((c, kind) -> {
            Walkwatch x = begun(c, kind, 1, 2);
            x.clear(c);
            Check.isRefused(x, CHANGED, () -> x.step(0));
        });
        Walkwatch x = span(0, 9, 1, 2);
        x.clear(4);
        Check.isRefused(x, STATE, () -> x.step(0));
    }

    static void edge20TheNextOneAsItIsNow() {
        for (int list : LISTS) {
            Walkwatch x = begun(list, 'k', 1, 2);
            x.set(list, 0, 8);
            x.set(list, 1, 9);
            Check.same(x.step(0), 8);
            Check.same(x.step(0), 9);
        }
        for (int map : TOLD_MAPS) {
            Walkwatch x = with(map, 1, 2);
            x.begin(0, map, 'v');
            x.begin(1, map, 'e');
            x.step(0);
            x.step(1);
            x.put(map, 2, 99);
            Check.same(x.step(0), 99);
            Check.same(x.step(1), 299);
        }
    }

    // ---- promise 21

    static void edge21LeastAndGreatestValue() {
        for (int map : TOLD_MAPS) {
            Walkwatch x = begun(map, 'e', 0, 99);
            Check.same(x.stepChange(0, 99), 0);
            Check.same(x.stepChange(0, 0), 9900);
            values(x, map, 99, 0);
            x.begin(0, map, 'e');
            Check.same(x.stepChange(0, 0), 99);
            values(x, map, 0, 0);
        }
    }

    static void edge21ValueOutOfRange() {
        for (int map : TOLD_MAPS) {
            refusesEach(ARGUMENT, outside(0, 99), () -> begun(map, 'e', 1, 2), (x, value) -> x.stepChange(0, value));
        }
    }

    static void edge21NoEntriesOrThoseOfTheHashMap() {
        forEachKind((c, kind) -> {
            if (kind != 'e' || c == 5) {
                Twin.refuses(UNSUPPORTED, () -> begun(c, kind, 1, 2), x -> x.stepChange(0, 1));
                Twin.refuses(UNSUPPORTED, () -> stepped(1, begun(c, kind, 1, 2)), x -> x.stepChange(0, 1));
            }
        });
        Twin.refuses(UNSUPPORTED, () -> span(0, 9, 1, 2), x -> x.stepChange(0, 1));
    }

    static void edge21NoneBegun() {
        needsBegun(x -> x.stepChange(0, 1));
    }

    static void edge21NoSuchWalk() {
        needsWalk((x, w) -> x.stepChange(w, 1));
        needsWalk((x, w) -> x.stepChange(w, 100));
    }

    static void edge21AtItsEnd() {
        for (int map : TOLD_MAPS) {
            Twin.refuses(NONE, () -> begun(map, 'e'), x -> x.stepChange(0, 1));
            Twin.refuses(NONE, () -> stepped(2, begun(map, 'e', 1, 2)), x -> x.stepChange(0, 1));
            Walkwatch x = fullBegun(map, 'e');
            for (int i = 0; i < 40; i++) {
                Check.same(x.stepChange(0, i), 100 * i);
            }
            Check.isRefused(x, NONE, () -> x.stepChange(0, 1));
        }
    }

    static void edge21OfNoUse() {
        for (int map : TOLD_MAPS) {
            Twin.refuses(CHANGED, () -> useless(map, 'e', 1, 2), x -> x.stepChange(0, 1));
            Walkwatch x = useless(map, 'e', 1, 2);
            Check.isRefused(x, CHANGED, () -> x.stepChange(0, 5));
            Check.isRefused(x, CHANGED, () -> x.stepChange(0, 5));
            values(x, map, 0, 0, 0);
        }
    }

    static void edge21NoneBegunAheadOfValueOutOfRange() {
        needsBegun(x -> x.stepChange(0, 100));
    }

    static void edge21AtItsEndAheadOfAllOthers() {
        forEachKind((c, kind) -> {
            Twin.refuses(NONE, () -> begun(c, kind), x -> x.stepChange(0, 1));
            Twin.refuses(NONE, () -> begun(c, kind), x -> x.stepChange(0, 100));
            Twin.refuses(NONE, () -> useless(c, kind), x -> x.stepChange(0, 100));
            Twin.refuses(NONE, () -> stepped(1, begun(c, kind, 1)), x -> x.stepChange(0, 1));
        });
        Twin.refuses(NONE, () -> span(0, 9), x -> x.stepChange(0, 100));
    }

    static void edge21NoEntriesAheadOfValueOutOfRangeAndNoUse() {
        forEachKind((c, kind) -> {
            if (kind != 'e' || c == 5) {
                Twin.refuses(UNSUPPORTED, () -> begun(c, kind, 1, 2), x -> x.stepChange(0, 100));
                Twin.refuses(UNSUPPORTED, () -> useless(c, kind, 1, 2), x -> x.stepChange(0, 1));
                Twin.refuses(UNSUPPORTED, () -> useless(c, kind, 1, 2), x -> x.stepChange(0, -1));
            }
        });
        Twin.refuses(UNSUPPORTED, () -> uselessSpan(0, 9, 1, 2), x -> x.stepChange(0, 100));
    }

    static void edge21ValueOutOfRangeAheadOfNoUse() {
        for (int map : TOLD_MAPS) {
            refusesEach(ARGUMENT, outside(0, 99), () -> useless(map, 'e', 1, 2), (x, value) -> x.stepChange(0, value));
        }
    }

    static void edge21CostsNoWalkItsUseAndLeavesTheOrder() {
        for (int map : TOLD_MAPS) {
            Walkwatch x = begun(map, 'e', 1, 2, 3);
            x.begin(1, map, 'e');
            Check.same(x.stepChange(0, 7), 100);
            Check.same(x.step(1), 107);
            Check.same(x.stepChange(1, 8), 200);
            Check.same(x.step(0), 208);
            holds(x, map, 1, 2, 3);
        }
    }

    static void edge21WhatItAnsweredCanBeTaken() {
        for (int map : TOLD_MAPS) {
            Walkwatch x = begun(map, 'e', 1, 2, 3);
            x.stepChange(0, 7);
            x.stepChange(0, 8);
            Check.same(x.take(0), 2);
            holds(x, map, 1, 3);
            values(x, map, 7, 0);
            Check.same(x.stepChange(0, 9), 300);
        }
    }

    // ---- promise 22

    static void edge22AtTheBeginning() {
        for (int list : LISTS) {
            Twin.refuses(NONE, () -> begun(list, 'l'), x -> x.back(0));
            Twin.refuses(NONE, () -> begun(list, 'l', 1, 2), x -> x.back(0));
            Twin.refuses(NONE, () -> backAgain(list), x -> x.back(0));
            Twin.refuses(NONE, () -> at(list, 0, 1), x -> x.back(0));
        }
    }

    private static Walkwatch backAgain(int list) {
        Walkwatch x = stepped(1, begun(list, 'l', 1, 2));
        x.back(0);
        return x;
    }

    static void edge22FromTheEndOfForty() {
        for (int list : LISTS) {
            Walkwatch x = full(list);
            x.beginAt(0, list, 40);
            for (int i = 39; i >= 0; i--) {
                Check.same(x.back(0), i);
                Check.same(x.isAtEnd(0), false);
                Check.same(x.answered(0), 40 - i);
            }
            Check.isRefused(x, NONE, () -> x.back(0));
            Check.same(x.step(0), 0);
        }
    }

    static void edge22NoneBegun() {
        needsBegun(x -> x.back(0));
    }

    static void edge22NoSuchWalk() {
        needsWalk((x, w) -> x.back(w));
    }

    static void edge22CannotTurn() {
        needsTurning(x -> x.back(0));
    }

    static void edge22OfNoUse() {
        for (int list : LISTS) {
            Twin.refuses(CHANGED, () -> stepUseless(list), x -> x.back(0));
            Walkwatch x = stepUseless(list);
            Check.isRefused(x, CHANGED, () -> x.back(0));
            Check.isRefused(x, CHANGED, () -> x.back(0));
        }
    }

    private static Walkwatch stepUseless(int list) {
        Walkwatch x = stepped(1, begun(list, 'l', 1, 2));
        x.add(list, 3);
        return x;
    }

    static void edge22AtTheBeginningAheadOfNoUse() {
        for (int list : LISTS) {
            Twin.refuses(NONE, () -> useless(list, 'l', 1, 2), x -> x.back(0));
            Walkwatch x = begun(list, 'l', 1, 2);
            x.insert(list, 0, 9);
            Check.isRefused(x, NONE, () -> x.back(0));
        }
    }

    static void edge22NotAtTheBeginningThoughNoneIsThereAnyMore() {
        for (int list : LISTS) {
            Walkwatch x = stepped(1, begun(list, 'l', 1, 2));
            x.clear(list);
            Check.isRefused(x, CHANGED, () -> x.back(0));
        }
    }

    static void edge22TheOneAheadAsItIsNow() {
        for (int list : LISTS) {
            Walkwatch x = stepped(2, begun(list, 'l', 1, 2));
            x.set(list, 1, 9);
            Check.same(x.back(0), 9);
        }
    }

    // ---- promise 23

    static void edge23NothingAnswered() {
        forEachKind((c, kind) -> {
            if (c != 5) {
                Twin.refuses(STATE, () -> begun(c, kind), x -> x.take(0));
                Twin.refuses(STATE, () -> begun(c, kind, 1, 2), x -> x.take(0));
            }
        });
        Twin.refuses(STATE, () -> span(0, 9, 1, 2), x -> x.take(0));
    }

    static void edge23TakenOnceNoMore() {
        forEachKind((c, kind) -> {
            if (c != 5) {
                Twin.refuses(STATE, () -> taken(c, kind), x -> x.take(0));
            }
        });
    }

    private static Walkwatch taken(int c, char kind) {
        Walkwatch x = stepped(1, begun(c, kind, 1, 2, 3));
        Check.same(x.take(0), 2);
        return x;
    }

    static void edge23EachOfForty() {
        forEachKind((c, kind) -> {
            if (c != 5) {
                Walkwatch x = fullBegun(c, kind);
                for (int i = 39; i >= 0; i--) {
                    Check.same(x.isAtEnd(0), false);
                    x.step(0);
                    Check.same(x.take(0), i);
                }
                Check.same(x.isAtEnd(0), true);
                Check.same(x.answered(0), 40);
                Check.isRefused(x, NONE, () -> x.step(0));
            }
        });
    }

    static void edge23TheFirstOneTheLastOneAndOneBetween() {
        forEachKind((c, kind) -> {
            if (c != 5) {
                boolean down = kind == 'd';
                holdsBehindTake(c, kind, 1, down ? 1 : 2, down ? 2 : 3);
                holdsBehindTake(c, kind, 2, 1, 3);
                holdsBehindTake(c, kind, 3, down ? 2 : 1, down ? 3 : 2);
            }
        });
    }

    private static void holdsBehindTake(int c, char kind, int steps, int... things) {
        Walkwatch x = stepped(steps, begun(c, kind, 1, 2, 3));
        Check.same(x.take(0), 2);
        holds(x, c, things);
        Check.same(x.isAtEnd(0), steps == 3);
        Check.same(x.answered(0), steps);
    }

    static void edge23GoesOnBehindIt() {
        forEachKind((c, kind) -> {
            if (c != 5) {
                Walkwatch x = stepped(1, begun(c, kind, 1, 2, 3));
                x.take(0);
                int key = 2;
                int due = kind == 'v' ? 0 : kind == 'e' ? 100 * key : key;
                Check.same(x.step(0), due);
                Check.same(x.take(0), 1);
                holds(x, c, kind == 'd' ? 1 : 3);
            }
        });
    }

    static void edge23OfASpan() {
        Walkwatch x = span(2, 5, 1, 2, 3, 4, 5);
        Check.same(x.step(0), 2);
        Check.same(x.take(0), 4);
        Check.isRefused(x, STATE, () -> x.take(0));
        Check.same(x.step(0), 3);
        Check.same(x.step(0), 4);
        Check.same(x.isAtEnd(0), true);
        Check.same(x.take(0), 3);
        Check.same(x.isAtEnd(0), true);
        holds(x, 4, 1, 3, 5);
    }

    static void edge23BehindGoingBack() {
        for (int list : LISTS) {
            Walkwatch x = at(list, 2, 1, 2, 3);
            x.back(0);
            Check.same(x.take(0), 2);
            Check.same(x.place(0), 1);
            Check.same(x.isAtEnd(0), false);
            holds(x, list, 1, 3);
            Check.same(x.back(0), 1);
            Check.same(x.take(0), 1);
            Check.isRefused(x, NONE, () -> x.back(0));
            Check.same(x.step(0), 3);
        }
    }

    static void edge23BehindGoingForthAndBack() {
        for (int list : LISTS) {
            Walkwatch x = stepped(1, begun(list, 'l', 1, 2));
            x.back(0);
            Check.same(x.take(0), 1);
            holds(x, list, 2);
            Walkwatch y = at(list, 2, 1, 2);
            y.back(0);
            y.step(0);
            Check.same(y.take(0), 1);
            Check.same(y.isAtEnd(0), true);
            Check.same(y.place(0), 1);
            holds(y, list, 1);
        }
    }

    static void edge23OfLikeOnesTheOneThatItAnswered() {
        for (int list : LISTS) {
            Walkwatch x = stepped(3, begun(list, 'k', 7, 8, 7, 9));
            x.take(0);
            holds(x, list, 7, 8, 9);
        }
    }

    static void edge23WhatWasChangedByIt() {
        for (int list : LISTS) {
            Walkwatch x = stepped(1, begun(list, 'l', 1, 2));
            x.change(0, 9);
            Check.same(x.take(0), 1);
            holds(x, list, 2);
        }
    }

    static void edge23LaidSomethingSince() {
        for (int list : LISTS) {
            Twin.refuses(STATE, () -> laid(list), x -> x.take(0));
            Walkwatch x = laid(list);
            Check.same(x.step(0), 2);
            Check.same(x.take(0), 2);
            holds(x, list, 1, 9);
        }
    }

    private static Walkwatch laid(int list) {
        Walkwatch x = stepped(1, begun(list, 'l', 1, 2));
        Check.same(x.lay(0, 9), 2);
        return x;
    }

    static void edge23OfTheHashMap() {
        for (char kind : "kve".toCharArray()) {
            Twin.refuses(UNSUPPORTED, () -> stepped(1, begun(5, kind, 1, 2)), x -> x.take(0));
        }
    }

    static void edge23NoneBegun() {
        needsBegun(x -> x.take(0));
    }

    static void edge23NoSuchWalk() {
        needsWalk((x, w) -> x.take(w));
    }

    static void edge23OfNoUse() {
        forEachKind((c, kind) -> {
            if (c != 5) {
                Walkwatch x = stepped(1, begun(c, kind, 1, 2, 3));
                x.add(c, 4);
                Check.isRefused(x, CHANGED, () -> x.take(0));
                Check.isRefused(x, CHANGED, () -> x.take(0));
                Twin.refuses(CHANGED, TestBase::spoiled, y -> y.take(0));
            }
        });
        Walkwatch x = stepped(1, span(0, 9, 1, 2));
        x.add(4, 3);
        Check.isRefused(x, CHANGED, () -> x.take(0));
    }

    static void edge23OfTheHashMapAheadOfAllOthers() {
        for (char kind : "kve".toCharArray()) {
            Twin.refuses(UNSUPPORTED, () -> begun(5, kind), x -> x.take(0));
            Twin.refuses(UNSUPPORTED, () -> begun(5, kind, 1), x -> x.take(0));
            Twin.refuses(UNSUPPORTED, () -> useless(5, kind, 1), x -> x.take(0));
        }
    }

    static void edge23NothingToTakeAheadOfNoUse() {
        forEachKind((c, kind) -> {
            if (c != 5) {
                Twin.refuses(STATE, () -> useless(c, kind, 1, 2), x -> x.take(0));
                Walkwatch x = taken(c, kind);
                x.add(c, 9);
                Check.isRefused(x, STATE, () -> x.take(0));
            }
        });
        Twin.refuses(STATE, () -> uselessSpan(0, 9, 1, 2), x -> x.take(0));
    }

    static void edge23CostsTheOthersTheirUseAndNotItself() {
        forEachKind((c, kind) -> {
            if (c != 5) {
                Walkwatch x = stepped(1, begun(c, kind, 1, 2, 3));
                x.begin(1, c, kind);
                x.step(1);
                x.take(0);
                Check.isRefused(x, CHANGED, () -> x.step(1));
                Check.isRefused(x, CHANGED, () -> x.take(1));
                x.step(0);
                Check.same(x.answered(0), 2);
            }
        });
    }

    // ---- promise 24

    static void edge24IntoAnEmptyList() {
        for (int list : LISTS) {
            Walkwatch x = begun(list, 'l');
            Check.same(x.lay(0, 5), 1);
            holds(x, list, 5);
            Check.same(x.isAtEnd(0), true);
            Check.isRefused(x, NONE, () -> x.step(0));
            Check.same(x.back(0), 5);
        }
    }

    static void edge24AtTheBeginningAndAtTheEnd() {
        for (int list : LISTS) {
            Walkwatch x = begun(list, 'l', 1, 2);
            Check.same(x.lay(0, 8), 1);
            Check.same(x.step(0), 1);
            Check.same(x.step(0), 2);
            Check.same(x.lay(0, 9), 4);
            Check.same(x.isAtEnd(0), true);
            holds(x, list, 8, 1, 2, 9);
        }
    }

    static void edge24LeastAndGreatestThing() {
        for (int list : LISTS) {
            Walkwatch x = begun(list, 'l');
            Check.same(x.lay(0, 0), 1);
            Check.same(x.lay(0, 99), 2);
            holds(x, list, 0, 99);
        }
    }

    static void edge24ThingOutOfRange() {
        for (int list : LISTS) {
            refusesEach(ARGUMENT, outside(0, 99), () -> begun(list, 'l'), (x, thing) -> x.lay(0, thing));
            refusesEach(ARGUMENT, outside(0, 99), () -> stepped(1, begun(list, 'l', 1, 2)),
                    (x, thing) -> x.lay(0, thing));
        }
    }

    static void edge24FortiethIsLaidAndTheNextOneIsNot() {
        for (int list : LISTS) {
            Walkwatch x = new Walkwatch();
            x.begin(0, list, 'l');
            for (int i = 0; i < 40; i++) {
                Check.same(x.lay(0, i), i + 1);
            }
            Check.isRefused(x, STATE, () -> x.lay(0, 40));
            Check.same(x.back(0), 39);
            Check.same(x.take(0), 39);
            Check.same(x.lay(0, 99), 40);
            Twin.refuses(STATE, () -> fullBegun(list, 'l'), y -> y.lay(0, 1));
            Twin.refuses(STATE, () -> stepped(40, fullBegun(list, 'l')), y -> y.lay(0, 1));
        }
    }

    static void edge24AheadOfTheNextOne() {
        for (int list : LISTS) {
            Walkwatch x = laid(list);
            holds(x, list, 1, 9, 2);
            Check.same(x.isAtEnd(0), false);
            Check.same(x.step(0), 2);
            Walkwatch y = laid(list);
            Check.same(y.back(0), 9);
            Check.same(y.back(0), 1);
        }
    }

    static void edge24OneBehindTheOther() {
        for (int list : LISTS) {
            Walkwatch x = laid(list);
            Check.same(x.lay(0, 8), 3);
            Check.same(x.lay(0, 7), 4);
            holds(x, list, 1, 9, 8, 7, 2);
        }
    }

    static void edge24BehindGoingBackAndTaking() {
        for (int list : LISTS) {
            Walkwatch x = at(list, 2, 1, 2, 3);
            x.back(0);
            Check.same(x.lay(0, 9), 2);
            holds(x, list, 1, 9, 2, 3);
            Check.same(x.step(0), 2);
            x.take(0);
            Check.same(x.lay(0, 8), 3);
            holds(x, list, 1, 9, 8, 3);
        }
    }

    static void edge24AnswersNothing() {
        for (int list : LISTS) {
            Check.same(laid(list).answered(0), 1);
        }
    }

    static void edge24CannotTurn() {
        needsTurning(x -> x.lay(0, 1));
    }

    static void edge24NoneBegun() {
        needsBegun(x -> x.lay(0, 1));
    }

    static void edge24NoSuchWalk() {
        needsWalk((x, w) -> x.lay(w, 1));
    }

    static void edge24OfNoUse() {
        for (int list : LISTS) {
            Twin.refuses(CHANGED, () -> useless(list, 'l', 1, 2), x -> x.lay(0, 1));
            Twin.refuses(CHANGED, () -> useless(list, 'l'), x -> x.lay(0, 1));
            Walkwatch x = useless(list, 'l', 1, 2);
            Check.isRefused(x, CHANGED, () -> x.lay(0, 1));
            Check.isRefused(x, CHANGED, () -> x.lay(0, 1));
            Walkwatch gone = begun(list, 'l', 1, 2);
            gone.clear(list);
            Check.isRefused(gone, CHANGED, () -> gone.lay(0, 1));
        }
    }

    static void edge24FirstDocumentedOneOfSeveral() {
        needsWalk((x, w) -> x.lay(w, 100));
        needsBegun(x -> x.lay(0, 100));
        needsTurning(x -> x.lay(0, 100));
        for (int list : LISTS) {
            Twin.refuses(UNSUPPORTED, () -> fullBegun(list, 'k'), x -> x.lay(0, 1));
            refusesEach(ARGUMENT, outside(0, 99), () -> fullBegun(list, 'l'), (x, thing) -> x.lay(0, thing));
            refusesEach(ARGUMENT, outside(0, 99), () -> useless(list, 'l', 1), (x, thing) -> x.lay(0, thing));
            Twin.refuses(STATE, () -> fullAndUseless(list), x -> x.lay(0, 1));
            Twin.refuses(ARGUMENT, () -> fullAndUseless(list), x -> x.lay(0, 100));
        }
    }

    private static Walkwatch fullAndUseless(int list) {
        Walkwatch x = stepped(1, fullBegun(list, 'l'));
        x.takeAt(list, 0);
        x.add(list, 1);
        return x;
    }

    static void edge24CostsTheOthersTheirUseAndNotItself() {
        for (int list : LISTS) {
            Walkwatch x = begun(list, 'l', 1, 2);
            x.begin(1, list, 'l');
            x.begin(2, list, 'k');
            x.lay(0, 9);
            Check.isRefused(x, CHANGED, () -> x.step(1));
            Check.isRefused(x, CHANGED, () -> x.step(2));
            Check.same(x.step(0), 1);
        }
    }

    // ---- promise 25

    static void edge25LeastAndGreatestThing() {
        for (int list : LISTS) {
            Walkwatch x = stepped(1, begun(list, 'l', 1, 2));
            Check.same(x.change(0, 0), 1);
            holds(x, list, 0, 2);
            Check.same(x.change(0, 99), 1);
            holds(x, list, 99, 2);
        }
    }

    static void edge25ThingOutOfRange() {
        for (int list : LISTS) {
            refusesEach(ARGUMENT, outside(0, 99), () -> stepped(1, begun(list, 'l', 1, 2)),
                    (x, thing) -> x.change(0, thing));
        }
    }

    static void edge25NothingAnswered() {
        for (int list : LISTS) {
            Twin.refuses(STATE, () -> begun(list, 'l'), x -> x.change(0, 1));
            Twin.refuses(STATE, () -> begun(list, 'l', 1, 2), x -> x.change(0, 1));
            Twin.refuses(STATE, () -> at(list, 2, 1, 2), x -> x.change(0, 1));
        }
    }

    static void edge25TakenOrLaidSince() {
        for (int list : LISTS) {
            Twin.refuses(STATE, () -> taken(list, 'l'), x -> x.change(0, 1));
            Twin.refuses(STATE, () -> laid(list), x -> x.change(0, 1));
        }
    }

    static void edge25FirstAndLastOfForty() {
        for (int list : LISTS) {
            Walkwatch x = stepped(1, fullBegun(list, 'l'));
            Check.same(x.change(0, 99), 1);
            Check.same(x.get(list, 0), 99);
            stepped(39, x);
            Check.same(x.change(0, 98), 40);
            Check.same(x.get(list, 39), 98);
            Check.same(x.isAtEnd(0), true);
            Check.same(x.size(list), 40);
        }
    }

    static void edge25BehindGoingBack() {
        for (int list : LISTS) {
            Walkwatch x = at(list, 2, 1, 2);
            x.back(0);
            Check.same(x.change(0, 9), 1);
            holds(x, list, 1, 9);
            Check.same(x.step(0), 9);
            x.back(0);
            x.back(0);
            Check.same(x.change(0, 8), 0);
            holds(x, list, 8, 9);
        }
    }

    static void edge25CannotTurn() {
        needsTurning(x -> x.change(0, 1));
    }

    static void edge25NoneBegun() {
        needsBegun(x -> x.change(0, 1));
    }

    static void edge25NoSuchWalk() {
        needsWalk((x, w) -> x.change(w, 1));
    }

    static void edge25OfNoUse() {
        for (int list : LISTS) {
            Twin.refuses(CHANGED, () -> stepUseless(list), x -> x.change(0, 1));
            Walkwatch x = stepUseless(list);
            Check.isRefused(x, CHANGED, () -> x.change(0, 9));
            Check.isRefused(x, CHANGED, () -> x.change(0, 9));
        }
    }

    static void edge25FirstDocumentedOneOfSeveral() {
        needsWalk((x, w) -> x.change(w, 100));
        needsBegun(x -> x.change(0, 100));
        needsTurning(x -> x.change(0, 100));
        for (int list : LISTS) {
            refusesEach(ARGUMENT, outside(0, 99), () -> begun(list, 'l', 1), (x, thing) -> x.change(0, thing));
            refusesEach(ARGUMENT, outside(0, 99), () -> stepUseless(list), (x, thing) -> x.change(0, thing));
            Twin.refuses(STATE, () -> useless(list, 'l', 1, 2), x -> x.change(0, 1));
            Twin.refuses(ARGUMENT, () -> useless(list, 'l', 1, 2), x -> x.change(0, -1));
        }
    }

    static void edge25CostsNoWalkItsUse() {
        for (int list : LISTS) {
            Walkwatch x = stepped(1, begun(list, 'l', 1, 2));
            x.begin(1, list, 'k');
            x.change(0, 9);
            Check.same(x.step(1), 9);
            Check.same(x.step(0), 2);
        }
    }

    static void edge25AnswersNothing() {
        for (int list : LISTS) {
            Walkwatch x = stepped(1, begun(list, 'l', 1, 2));
            x.change(0, 9);
            Check.same(x.answered(0), 1);
        }
    }

    // ---- promise 26

    static void edge26FromTheBeginningToTheEndOfForty() {
        for (int list : LISTS) {
            Walkwatch x = fullBegun(list, 'l');
            for (int i = 0; i < 40; i++) {
                Check.same(x.place(0), i);
                x.step(0);
            }
            Check.same(x.place(0), 40);
            Check.same(begun(list, 'l').place(0), 0);
        }
    }

    static void edge26BehindWhatItDidItself() {
        for (int list : LISTS) {
            Check.same(taken(list, 'l').place(0), 0);
            Check.same(laid(list).place(0), 2);
            Walkwatch x = at(list, 2, 1, 2, 3);
            x.back(0);
            Check.same(x.place(0), 1);
            x.change(0, 9);
            Check.same(x.place(0), 1);
            x.take(0);
            Check.same(x.place(0), 1);
        }
    }

    static void edge26AsItLastDidSomething() {
        for (int list : LISTS) {
            Walkwatch x = stepped(2, begun(list, 'l', 1, 2, 3));
            x.insert(list, 0, 9);
            Check.same(x.place(0), 2);
            x.clear(list);
            Check.same(x.place(0), 2);
            Check.isThrown(CHANGED, () -> x.step(0));
            Check.isThrown(CHANGED, () -> x.back(0));
            Check.same(x.place(0), 2);
        }
    }

    static void edge26CannotTurn() {
        needsTurning(x -> x.place(0));
    }

    static void edge26NoneBegun() {
        needsBegun(x -> x.place(0));
    }

    static void edge26NoSuchWalk() {
        needsWalk((x, w) -> x.place(w));
    }

    static void edge26IsAQuestion() {
        Twin.leavesAll(TestBase::rich, x -> x.place(0));
        Twin.leavesAll(TestBase::spoiled, x -> x.place(0));
    }

    // ---- promise 27

    static void edge27BegunAtItsEndAndAheadOfIt() {
        forEachKind((c, kind) -> {
            Check.same(begun(c, kind).isAtEnd(0), true);
            Check.same(begun(c, kind, 5).isAtEnd(0), false);
            Check.same(stepped(1, begun(c, kind, 5)).isAtEnd(0), true);
            Check.same(stepped(1, begun(c, kind, 5, 6)).isAtEnd(0), false);
            Check.same(stepped(39, fullBegun(c, kind)).isAtEnd(0), false);
            Check.same(stepped(40, fullBegun(c, kind)).isAtEnd(0), true);
        });
    }

    static void edge27AtItsEndWhateverComesSince() {
        forEachKind((c, kind) -> {
            Walkwatch x = begun(c, kind);
            x.add(c, 1);
            Check.same(x.isAtEnd(0), true);
            Walkwatch y = stepped(1, begun(c, kind, 5));
            y.add(c, 1);
            y.add(c, 9);
            Check.same(y.isAtEnd(0), true);
        });
    }

    static void edge27NotAtItsEndWhateverComesSince() {
        forEachKind((c, kind) -> {
            Walkwatch x = stepped(1, begun(c, kind, 5, 6));
            x.clear(c);
            Check.same(x.isAtEnd(0), false);
            Check.isThrown(CHANGED, () -> x.step(0));
            Check.same(x.isAtEnd(0), false);
        });
    }

    static void edge27OfASpan() {
        Check.same(span(0, 9, 9).isAtEnd(0), true);
        Check.same(span(0, 9, 8).isAtEnd(0), false);
        Walkwatch x = span(0, 9, 9);
        x.add(4, 8);
        Check.same(x.isAtEnd(0), true);
        Walkwatch y = span(0, 9, 8);
        y.drop(4, 8);
        Check.same(y.isAtEnd(0), false);
    }

    static void edge27BehindGoingBackTakingAndLaying() {
        for (int list : LISTS) {
            Walkwatch x = stepped(2, begun(list, 'l', 1, 2));
            x.back(0);
            Check.same(x.isAtEnd(0), false);
            x.take(0);
            Check.same(x.isAtEnd(0), true);
            x.lay(0, 5);
            Check.same(x.isAtEnd(0), true);
            x.back(0);
            Check.same(x.isAtEnd(0), false);
            x.lay(0, 6);
            Check.same(x.isAtEnd(0), false);
        }
    }

    static void edge27NoneBegun() {
        needsBegun(x -> x.isAtEnd(0));
    }

    static void edge27NoSuchWalk() {
        needsWalk((x, w) -> x.isAtEnd(w));
    }

    static void edge27IsAQuestion() {
        for (int w = 0; w <= 7; w++) {
            int walk = w;
            Twin.leavesAll(TestBase::rich, x -> x.isAtEnd(walk));
            Twin.leavesAll(TestBase::spoiled, x -> x.isAtEnd(walk));
        }
    }

    // ---- promise 28

    static void edge28FromNoneToForty() {
        forEachKind((c, kind) -> {
            Check.same(begun(c, kind).answered(0), 0);
            Check.same(begun(c, kind, 1).answered(0), 0);
            Check.same(stepped(1, begun(c, kind, 1)).answered(0), 1);
            Check.same(stepped(40, fullBegun(c, kind)).answered(0), 40);
        });
        Check.same(span(0, 9, 1).answered(0), 0);
        Check.same(stepped(1, span(0, 9, 1)).answered(0), 1);
    }

    static void edge28ForwardAndBackward() {
        for (int list : LISTS) {
            Walkwatch x = begun(list, 'l', 1, 2);
            for (int i = 0; i < 100; i++) {
                x.step(0);
                x.back(0);
            }
            Check.same(x.answered(0), 200);
        }
    }

    static void edge28NotWhatItTookLaidOrChanged() {
        for (int list : LISTS) {
            Walkwatch x = stepped(1, begun(list, 'l', 1, 2));
            x.change(0, 5);
            x.take(0);
            x.lay(0, 6);
            Check.same(x.answered(0), 1);
        }
        Walkwatch x = begun(2, 'e', 1, 2);
        x.stepChange(0, 9);
        Check.same(x.answered(0), 1);
    }

    static void edge28NoRefusal() {
        forEachKind((c, kind) -> {
            Walkwatch x = stepped(1, begun(c, kind, 1, 2));
            x.clear(c);
            Check.isThrown(CHANGED, () -> x.step(0));
            Check.same(x.answered(0), 1);
            Walkwatch y = stepped(2, begun(c, kind, 1, 2));
            Check.isThrown(NONE, () -> y.step(0));
            Check.same(y.answered(0), 2);
        });
    }

    static void edge28NoneBegun() {
        needsBegun(x -> x.answered(0));
    }

    static void edge28NoSuchWalk() {
        needsWalk((x, w) -> x.answered(w));
    }

    static void edge28IsAQuestion() {
        for (int w = 0; w <= 7; w++) {
            int walk = w;
            Twin.leavesAll(TestBase::rich, x -> x.answered(walk));
            Twin.leavesAll(TestBase::spoiled, x -> x.answered(walk));
        }
    }

    // ---- promise 29

    static void edge29OneThatAnsweredNothingSomeAndAll() {
        forEachKind((c, kind) -> {
            Check.same(begun(c, kind).end(0), 0);
            Check.same(stepped(1, begun(c, kind, 1, 2)).end(0), 1);
            Check.same(stepped(40, fullBegun(c, kind)).end(0), 40);
        });
        Check.same(stepped(1, span(0, 9, 1)).end(0), 1);
    }

    static void edge29OneThatIsOfNoUse() {
        for (int w = 0; w <= 7; w++) {
            Walkwatch x = spoiled();
            Check.same(x.end(w), w == 7 ? 0 : 1);
            Check.same(x.kindOf(w), '-');
        }
    }

    static void edge29NoneIsThereThen() {
        for (int w = 0; w <= 7; w++) {
            int walk = w;
            Walkwatch x = rich();
            x.end(walk);
            Check.same(x.kindOf(walk), '-');
            Check.isRefused(x, NONE, () -> x.end(walk));
            Check.isRefused(x, NONE, () -> x.step(walk));
            Check.isRefused(x, NONE, () -> x.stepChange(walk, 1));
            Check.isRefused(x, NONE, () -> x.back(walk));
            Check.isRefused(x, NONE, () -> x.take(walk));
            Check.isRefused(x, NONE, () -> x.lay(walk, 1));
            Check.isRefused(x, NONE, () -> x.change(walk, 1));
            Check.isRefused(x, NONE, () -> x.place(walk));
            Check.isRefused(x, NONE, () -> x.isAtEnd(walk));
            Check.isRefused(x, NONE, () -> x.answered(walk));
        }
    }

    static void edge29TheOthersGoOn() {
        Walkwatch x = rich();
        Check.same(x.end(0), 1);
        for (int w = 1; w <= 6; w++) {
            Check.same(x.kindOf(w), "lkevdse".charAt(w));
            x.step(w);
        }
        Check.same(x.kindOf(7), 'l');
        Check.same(x.back(7), 40);
        holds(x, 0, 10, 20, 30, 40);
    }

    static void edge29NoneBegun() {
        needsBegun(x -> x.end(0));
    }

    static void edge29NoSuchWalk() {
        needsWalk((x, w) -> x.end(w));
    }

    static void edge29BegunAgain() {
        forEachKind((c, kind) -> {
            Walkwatch x = stepped(1, begun(c, kind, 1, 2));
            x.end(0);
            Check.same(x.begin(0, c, kind), false);
            Check.same(x.answered(0), 0);
            x.step(0);
            Check.same(x.end(0), 1);
        });
    }

    // ---- promise 30

    static void edge30EachKind() {
        forEachKind((c, kind) -> {
            Check.same(begun(c, kind).kindOf(0), kind);
            Check.same(useless(c, kind, 1, 2).kindOf(0), kind);
            Check.same(stepped(1, begun(c, kind, 1)).kindOf(0), kind);
        });
    }

    static void edge30OfASpan() {
        Check.same(span(0, 0).kindOf(0), 's');
        Check.same(uselessSpan(0, 9, 1).kindOf(0), 's');
    }

    static void edge30NoneBegun() {
        for (int w = 0; w <= 7; w++) {
            Check.same(new Walkwatch().kindOf(w), '-');
            Walkwatch x = rich();
            x.end(w);
            Check.same(x.kindOf(w), '-');
        }
        Walkwatch x = new Walkwatch();
        Check.isThrown(UNSUPPORTED, () -> x.begin(0, 8, 'k'));
        Check.isThrown(NONE, () -> x.beginAt(0, 0, 1));
        Check.isThrown(ARGUMENT, () -> x.beginSpan(0, 1, 0));
        Check.same(x.kindOf(0), '-');
    }

    static void edge30NoSuchWalk() {
        needsWalk((x, w) -> x.kindOf(w));
    }

    static void edge30IsAQuestion() {
        for (int w = 0; w <= 7; w++) {
            int walk = w;
            Twin.leavesAll(TestBase::rich, x -> x.kindOf(walk));
            Twin.leavesAll(TestBase::spoiled, x -> x.kindOf(walk));
        }
    }
}
