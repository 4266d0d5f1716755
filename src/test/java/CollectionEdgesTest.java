/** Promises 1 to 16: a test of its own for each sentence that names a boundary case. */
final class CollectionEdgesTest extends TestBase {
    private static final int LEAST = Integer.MIN_VALUE;
    private static final int GREATEST = Integer.MAX_VALUE;

    private CollectionEdgesTest() {
    }

    public static void main(String[] args) {
        Check.runAll(CollectionEdgesTest.class, "edge");
    }

    private static Walkwatch keys(int map, int count) {
        Walkwatch x = new Walkwatch();
        for (int i = 0; i < count; i++) {
            Check.same(x.put(map, i, 99 - i), false);
        }
        return x;
    }

    private static void isOfUseStill(int collection, Twin.Setup setup, Twin.Call call) {
        Walkwatch x = setup.make();
        Check.same(costsUse(x, collection, () -> call.on(x)), false);
    }

    private static void isOfNoUseMore(int collection, Twin.Setup setup, Twin.Call call) {
        Walkwatch x = setup.make();
        Check.same(costsUse(x, collection, () -> call.on(x)), true);
    }

    // ---- promise 1

    static void edge01NineCollectionsWithoutThings() {
        for (int c : ALL) {
            Check.same(new Walkwatch().size(c), 0);
            Check.same(new Walkwatch().sum(c), 0);
            for (int thing = 0; thing <= 99; thing++) {
                Check.same(new Walkwatch().has(c, thing), false);
            }
        }
        Twin.refuses(INDEX, Walkwatch::new, x -> x.size(9));
    }

    static void edge01NoWalks() {
        Walkwatch x = new Walkwatch();
        for (int w = 0; w <= 7; w++) {
            int walk = w;
            Check.same(x.kindOf(w), '-');
            Twin.refuses(NONE, Walkwatch::new, y -> y.step(walk));
        }
        Twin.refuses(ArithmeticException.class, Walkwatch::new, Walkwatch::endShare);
    }

    static void edge01ObjectsAreApart() {
        Walkwatch full = rich();
        Check.same(Look.at(new Walkwatch()).equals(Look.at(full)), false);
        Check.same(new Walkwatch().checksum(), new Walkwatch().checksum());
        String before = Look.at(full);
        new Walkwatch().add(0, 1);
        new Walkwatch().begin(0, 0, 'k');
        Check.same(Look.at(full), before);
    }

    // ---- promise 2

    static void edge02FromNoneToForty() {
        for (int c : ALL) {
            Walkwatch x = new Walkwatch();
            for (int i = 0; i < 40; i++) {
                Check.same(x.size(c), i);
                x.add(c, i);
            }
            Check.same(x.size(c), 40);
        }
    }

    static void edge02NoSuchCollection() {
        needsCollection((x, c) -> x.size(c));
    }

    static void edge02IsAQuestion() {
        for (int c : ALL) {
            Twin.leavesAll(TestBase::rich, x -> x.size(c));
        }
    }

    // ---- promise 3

    static void edge03LeastAndGreatestThing() {
        for (int c : ALL) {
            Walkwatch x = with(c, 0, 1, 98, 99);
            Check.same(x.size(c), 4);
            Check.same(x.has(c, 0) && x.has(c, 1) && x.has(c, 98) && x.has(c, 99), true);
        }
    }

    static void edge03ThingOutOfRange() {
        for (int c : ALL) {
            refusesEach(ARGUMENT, outside(0, 99), TestBase::rich, (x, thing) -> x.add(c, thing));
            refusesEach(ARGUMENT, outside(0, 99), Walkwatch::new, (x, thing) -> x.add(c, thing));
        }
    }

    static void edge03NoSuchCollection() {
        needsCollection((x, c) -> x.add(c, 1));
    }

    static void edge03NoSuchCollectionAheadOfThingOutOfRange() {
        needsCollection((x, c) -> x.add(c, 100));
    }

    static void edge03FortiethGoesInAndNextOneDoesNot() {
        for (int c : ALL) {
            Walkwatch x = full(c);
            x.drop(c, 39);
            Check.same(x.add(c, 99), true);
            Check.same(x.size(c), 40);
            Twin.refuses(STATE, () -> full(c), y -> y.add(c, 40));
            Twin.refuses(STATE, () -> full(c), y -> y.add(c, 99));
        }
    }

    static void edge03ThingOutOfRangeAheadOfFull() {
        for (int c : ALL) {
            refusesEach(ARGUMENT, outside(0, 99), () -> full(c), (x, thing) -> x.add(c, thing));
        }
    }

    static void edge03WhatIsThereIsAnsweredByAFullMapOrSet() {
        for (int c : MAPS_AND_SETS) {
            Walkwatch x = full(c);
            for (int thing = 0; thing < 40; thing++) {
                Check.same(x.add(c, thing), false);
            }
            Check.same(x.size(c), 40);
        }
    }

    static void edge03LikeOneIsRefusedByAFullListOrQueue() {
        for (int c : new int[] {0, 1, 8}) {
            Twin.refuses(STATE, () -> full(c), x -> x.add(c, 0));
            Twin.refuses(STATE, () -> full(c), x -> x.add(c, 39));
        }
    }

    static void edge03LikeOneIsOneMoreInAListOrQueue() {
        for (int c : new int[] {0, 1, 8}) {
            Walkwatch x = with(c, 7, 7, 7);
            Check.same(x.size(c), 3);
            Check.same(x.sum(c), 21);
        }
    }

    static void edge03WhatIsThereIsNotOneMore() {
        for (int c : MAPS_AND_SETS) {
            Walkwatch x = with(c, 0, 99, 5);
            Check.same(x.add(c, 0), false);
            Check.same(x.add(c, 99), false);
            Check.same(x.add(c, 5), false);
            Check.same(x.size(c), 3);
        }
    }

    static void edge03NewKeyHasTheValueNone() {
        for (int map : TOLD_MAPS) {
            Walkwatch x = with(map, 4);
            values(x, map, 0);
            x.put(map, 4, 9);
            x.drop(map, 4);
            x.add(map, 4);
            values(x, map, 0);
        }
        Walkwatch hash = new Walkwatch();
        hash.put(5, 4, 9);
        hash.clear(5);
        hash.add(5, 4);
        Check.same(hash.ask(5, 4), 0);
    }

    static void edge03KeyThatIsThereKeepsItsValue() {
        for (int map : MAPS) {
            Walkwatch x = new Walkwatch();
            x.put(map, 4, 99);
            x.put(map, 5, 1);
            Check.same(x.add(map, 4), false);
            x.put(map, 5, 1);
            Check.same(x.ask(map, 4), 99);
        }
    }

    static void edge03GoesBehindAllOfAList() {
        for (int list : LISTS) {
            holds(with(list, 9, 0, 9, 1), list, 9, 0, 9, 1);
            Walkwatch x = full(list);
            x.takeAt(list, 0);
            x.add(list, 0);
            Check.same(x.get(list, 39), 0);
            Check.same(x.get(list, 0), 1);
        }
    }

    static void edge03NewOneIsAChangeOfBuild() {
        for (int c : WALKED) {
            isOfNoUseMore(c, () -> with(c, 3, 4), x -> x.add(c, 5));
        }
    }

    static void edge03WhatIsThereIsNoChangeOfBuild() {
        for (int c : new int[] {2, 4, 5, 6, 7}) {
            Twin.leavesAll(TestBase::rich, x -> x.add(c, 10));
            Twin.leavesAll(TestBase::rich, x -> x.add(c, 40));
        }
    }

    static void edge03LastKeyOfTheMapByAskingStaysLast() {
        Twin.leavesAll(TestBase::rich, x -> x.add(3, 40));
    }

    static void edge03OtherKeyOfTheMapByAskingBecomesTheLast() {
        Walkwatch x = full(3);
        Check.same(costsUse(x, 3, () -> x.add(3, 0)), true);
        Check.same(x.thingAt(3, 0), 1);
        Check.same(x.thingAt(3, 39), 0);
        isOfNoUseMore(3, () -> with(3, 1, 2), y -> y.add(3, 1));
    }

    // ---- promise 4

    static void edge04FirstPlaceAndThePlaceBehindAll() {
        for (int list : LISTS) {
            Walkwatch x = new Walkwatch();
            Check.same(x.insert(list, 0, 5), 1);
            Check.same(x.insert(list, 1, 6), 2);
            Check.same(x.insert(list, 0, 4), 3);
            Check.same(x.insert(list, 2, 9), 4);
            holds(x, list, 4, 5, 9, 6);
        }
    }

    static void edge04NoSuchPlace() {
        for (int list : LISTS) {
            refusesEach(NONE, outside(0, 4), TestBase::rich, (x, place) -> x.insert(list, place, 1));
            refusesEach(NONE, outside(0, 0), Walkwatch::new, (x, place) -> x.insert(list, place, 1));
            refusesEach(NONE, outside(0, 40), () -> full(list), (x, place) -> x.insert(list, place, 1));
        }
    }

    static void edge04LeastAndGreatestThing() {
        for (int list : LISTS) {
            Walkwatch x = new Walkwatch();
            Check.same(x.insert(list, 0, 0), 1);
            Check.same(x.insert(list, 0, 99), 2);
            holds(x, list, 99, 0);
        }
    }

    static void edge04ThingOutOfRange() {
        for (int list : LISTS) {
            refusesEach(ARGUMENT, outside(0, 99), TestBase::rich, (x, thing) -> x.insert(list, 4, thing));
            refusesEach(ARGUMENT, outside(0, 99), Walkwatch::new, (x, thing) -> x.insert(list, 0, thing));
        }
    }

    static void edge04FortiethGoesInAndNextOneDoesNot() {
        for (int list : LISTS) {
            for (int place = 0; place < 40; place++) {
                Walkwatch x = full(list);
                x.takeAt(list, 39);
                Check.same(x.insert(list, place, 99), 40);
                Check.same(x.get(list, place), 99);
                Check.same(x.sum(list), 39 * 38 / 2 + 99);
            }
            refusesEach(STATE, new int[] {0, 1, 39, 40}, () -> full(list), (x, place) -> x.insert(list, place, 1));
        }
    }

    static void edge04NoList() {
        needsOther(NO_LISTS, (x, c) -> x.insert(c, 0, 1));
    }

    static void edge04NoSuchCollection() {
        needsCollection((x, c) -> x.insert(c, 0, 1));
    }

    static void edge04FirstDocumentedOneOfSeveral() {
        needsCollection((x, c) -> x.insert(c, -1, 100));
        needsOther(NO_LISTS, (x, c) -> x.insert(c, -1, 1));
        needsOther(NO_LISTS, (x, c) -> x.insert(c, 0, 100));
        refusesEach(UNSUPPORTED, NO_LISTS, () -> full(4), (x, c) -> x.insert(c, -1, 100));
        for (int list : LISTS) {
            Twin.refuses(NONE, TestBase::rich, x -> x.insert(list, 5, 100));
            Twin.refuses(NONE, () -> full(list), x -> x.insert(list, 41, 1));
            Twin.refuses(NONE, () -> full(list), x -> x.insert(list, -1, 100));
            Twin.refuses(ARGUMENT, () -> full(list), x -> x.insert(list, 0, 100));
            Twin.refuses(ARGUMENT, () -> full(list), x -> x.insert(list, 40, -1));
        }
    }

    static void edge04IsAChangeOfBuild() {
        for (int list : LISTS) {
            isOfNoUseMore(list, () -> with(list, 3, 4), x -> x.insert(list, 0, 5));
            isOfNoUseMore(list, () -> with(list, 3, 4), x -> x.insert(list, 2, 5));
        }
    }

    // ---- promise 5

    static void edge05LeastAndGreatestKeyAndValue() {
        for (int map : MAPS) {
            Walkwatch x = new Walkwatch();
            Check.same(x.put(map, 0, 99), false);
            Check.same(x.put(map, 99, 0), false);
            Check.same(x.put(map, 5, 5), false);
            Check.same(x.ask(map, 0), 99);
            Check.same(x.ask(map, 99), 0);
        }
    }

    static void edge05KeyOrValueOutOfRange() {
        for (int map : MAPS) {
            refusesEach(ARGUMENT, outside(0, 99), TestBase::rich, (x, key) -> x.put(map, key, 1));
            refusesEach(ARGUMENT, outside(0, 99), TestBase::rich, (x, value) -> x.put(map, 10, value));
            refusesEach(ARGUMENT, outside(0, 99), TestBase::rich, (x, value) -> x.put(map, 11, value));
            refusesEach(ARGUMENT, outside(0, 99), Walkwatch::new, (x, both) -> x.put(map, both, both));
        }
    }

    static void edge05FortiethGoesInAndNextOneDoesNot() {
        for (int map : MAPS) {
            Check.same(keys(map, 39).put(map, 99, 1), false);
            Twin.refuses(STATE, () -> keys(map, 40), x -> x.put(map, 40, 1));
            Twin.refuses(STATE, () -> keys(map, 40), x -> x.put(map, 99, 1));
        }
    }

    static void edge05KeyThatIsThereIsTakenByAFullMap() {
        for (int map : MAPS) {
            Walkwatch x = keys(map, 40);
            for (int key = 0; key < 40; key++) {
                Check.same(x.put(map, key, key), true);
            }
            Check.same(x.size(map), 40);
            Check.same(x.ask(map, 17), 17);
        }
    }

    static void edge05NoMap() {
        needsOther(NO_MAPS, (x, c) -> x.put(c, 1, 1));
    }

    static void edge05NoSuchCollection() {
        needsCollection((x, c) -> x.put(c, 1, 1));
    }

    static void edge05FirstDocumentedOneOfSeveral() {
        needsCollection((x, c) -> x.put(c, -1, 100));
        needsOther(NO_MAPS, (x, c) -> x.put(c, 100, 1));
        needsOther(NO_MAPS, (x, c) -> x.put(c, 1, 100));
        for (int map : MAPS) {
            refusesEach(ARGUMENT, outside(0, 99), () -> keys(map, 40), (x, key) -> x.put(map, key, 1));
            refusesEach(ARGUMENT, outside(0, 99), () -> keys(map, 40), (x, value) -> x.put(map, 40, value));
        }
        refusesEach(UNSUPPORTED, new int[] {0, 1, 8}, () -> full(0), (x, c) -> x.put(c, 100, 100));
    }

    static void edge05NewKeyIsAChangeOfBuild() {
        for (int map : MAPS) {
            isOfNoUseMore(map, () -> with(map, 3, 4), x -> x.put(map, 5, 0));
        }
    }

    static void edge05ValueAnewIsNoChangeOfBuild() {
        for (int map : new int[] {2, 4, 5}) {
            isOfUseStill(map, () -> with(map, 3, 4), x -> x.put(map, 3, 9));
            isOfUseStill(map, () -> with(map, 3, 4), x -> x.put(map, 4, 9));
        }
        isOfUseStill(3, () -> with(3, 3, 4), x -> x.put(3, 4, 9));
        isOfUseStill(3, () -> with(3, 3), x -> x.put(3, 3, 9));
    }

    static void edge05OtherKeyOfTheMapByAskingBecomesTheLast() {
        isOfNoUseMore(3, () -> with(3, 3, 4), x -> x.put(3, 3, 0));
        Walkwatch x = keys(3, 40);
        x.put(3, 0, 50);
        Check.same(x.thingAt(3, 39), 0);
        Check.same(x.valueAt(3, 39), 50);
        Check.same(x.thingAt(3, 0), 1);
        Check.same(x.valueAt(3, 0), 98);
    }

    static void edge05KeyThatIsThereKeepsItsPlaceInTheOtherMaps() {
        for (int map : new int[] {2, 4}) {
            Walkwatch x = with(map, 1, 2, 3);
            x.put(map, 1, 7);
            holds(x, map, 1, 2, 3);
            values(x, map, 7, 0, 0);
        }
    }

    // ---- promise 6

    static void edge06FirstAndLastPlace() {
        for (int list : LISTS) {
            Walkwatch x = with(list, 4, 5, 6);
            Check.same(x.set(list, 0, 0), 4);
            Check.same(x.set(list, 2, 99), 6);
            holds(x, list, 0, 5, 99);
            Check.same(full(list).set(list, 39, 1), 39);
        }
    }

    static void edge06NoSuchPlace() {
        for (int list : LISTS) {
            refusesEach(NONE, outside(0, 3), TestBase::rich, (x, place) -> x.set(list, place, 1));
            refusesEach(NONE, outside(0, -1), Walkwatch::new, (x, place) -> x.set(list, place, 1));
            refusesEach(NONE, outside(0, 39), () -> full(list), (x, place) -> x.set(list, place, 1));
        }
    }

    static void edge06ThingOutOfRange() {
        for (int list : LISTS) {
            refusesEach(ARGUMENT, outside(0, 99), TestBase::rich, (x, thing) -> x.set(list, 0, thing));
            refusesEach(ARGUMENT, outside(0, 99), () -> full(list), (x, thing) -> x.set(list, 39, thing));
        }
    }

    static void edge06NoList() {
        needsOther(NO_LISTS, (x, c) -> x.set(c, 0, 1));
    }

    static void edge06NoSuchCollection() {
        needsCollection((x, c) -> x.set(c, 0, 1));
    }

    static void edge06FirstDocumentedOneOfSeveral() {
        needsCollection((x, c) -> x.set(c, -1, 100));
        needsOther(NO_LISTS, (x, c) -> x.set(c, -1, 100));
        needsOther(NO_LISTS, (x, c) -> x.set(c, 0, 100));
        for (int list : LISTS) {
            refusesEach(NONE, outside(0, 3), TestBase::rich, (x, place) -> x.set(list, place, 100));
            Twin.refuses(NONE, Walkwatch::new, x -> x.set(list, 0, -1));
        }
    }

    static void edge06IsNoChangeOfBuild() {
        for (int list : LISTS) {
            isOfUseStill(list, () -> with(list, 3, 4), x -> x.set(list, 0, 9));
            isOfUseStill(list, () -> with(list, 3, 4), x -> x.set(list, 1, 9));
            isOfUseStill(list, () -> full(list), x -> x.set(list, 39, 9));
            Twin.leavesAll(TestBase::rich, x -> x.set(list, 1, 20));
        }
    }

    // ---- promise 7

    static void edge07FirstAndLastPlace() {
        for (int list : LISTS) {
            Check.same(with(list, 99).get(list, 0), 99);
            Check.same(full(list).get(list, 0), 0);
            Check.same(full(list).get(list, 39), 39);
        }
    }

    static void edge07NoSuchPlace() {
        for (int list : LISTS) {
            refusesEach(NONE, outside(0, 3), TestBase::rich, (x, place) -> x.get(list, place));
            refusesEach(NONE, outside(0, -1), Walkwatch::new, (x, place) -> x.get(list, place));
            refusesEach(NONE, outside(0, 39), () -> full(list), (x, place) -> x.get(list, place));
        }
    }

    static void edge07NoList() {
        needsOther(NO_LISTS, (x, c) -> x.get(c, 0));
    }

    static void edge07NoSuchCollection() {
        needsCollection((x, c) -> x.get(c, 0));
    }

    static void edge07FirstDocumentedOneOfSeveral() {
        needsCollection((x, c) -> x.get(c, -1));
        needsOther(NO_LISTS, (x, c) -> x.get(c, -1));
    }

    static void edge07IsAQuestion() {
        for (int list : LISTS) {
            Twin.leavesAll(TestBase::rich, x -> x.get(list, 3));
        }
    }

    // ---- promise 8

    static void edge08LeastAndGreatestKey() {
        for (int map : MAPS) {
            Walkwatch x = new Walkwatch();
            x.put(map, 0, 99);
            x.put(map, 99, 98);
            x.put(map, 1, 1);
            Check.same(x.ask(map, 0), 99);
            Check.same(x.ask(map, 99), 98);
        }
    }

    static void edge08KeyThatIsNotThere() {
        for (int map : MAPS) {
            refusesEach(NONE, new int[] {0, 11, 99, -1, 100, LEAST, GREATEST}, TestBase::rich,
                    (x, key) -> x.ask(map, key));
            refusesEach(NONE, new int[] {0, 99, -1, 100, LEAST, GREATEST}, Walkwatch::new,
                    (x, key) -> x.ask(map, key));
            refusesEach(NONE, outside(0, 39), () -> full(map), (x, key) -> x.ask(map, key));
        }
    }

    static void edge08LastKeyOfTheMapByAsking() {
        Twin.refuses(UNSUPPORTED, TestBase::rich, x -> x.ask(3, 40));
        Twin.refuses(UNSUPPORTED, () -> with(3, 0), x -> x.ask(3, 0));
        Twin.refuses(UNSUPPORTED, () -> full(3), x -> x.ask(3, 39));
        Walkwatch x = full(3);
        Check.same(x.ask(3, 38), 0);
        Check.same(x.ask(3, 39), 0);
        Check.isRefused(x, UNSUPPORTED, () -> x.ask(3, 39));
    }

    static void edge08LastKeyOfTheOtherMaps() {
        for (int map : new int[] {2, 4, 5}) {
            Check.same(rich().ask(map, 40), 4);
            Check.same(with(map, 7).ask(map, 7), 0);
        }
    }

    static void edge08OtherKeyOfTheMapByAskingBecomesTheLast() {
        Walkwatch x = full(3);
        x.put(3, 39, 1);
        Check.same(costsUse(x, 3, () -> x.ask(3, 0)), true);
        Check.same(x.thingAt(3, 39), 0);
        Check.same(x.thingAt(3, 38), 39);
        Check.same(x.valueAt(3, 38), 1);
        Check.same(x.thingAt(3, 0), 1);
        Check.same(x.size(3), 40);
    }

    static void edge08IsAQuestionToTheOtherMaps() {
        for (int map : new int[] {2, 4, 5}) {
            Twin.leavesAll(TestBase::rich, x -> x.ask(map, 10));
            Twin.leavesAll(TestBase::rich, x -> x.ask(map, 40));
        }
    }

    static void edge08NoMap() {
        needsOther(NO_MAPS, (x, c) -> x.ask(c, 10));
    }

    static void edge08NoSuchCollection() {
        needsCollection((x, c) -> x.ask(c, 10));
    }

    static void edge08FirstDocumentedOneOfSeveral() {
        needsCollection((x, c) -> x.ask(c, -1));
        needsOther(NO_MAPS, (x, c) -> x.ask(c, 11));
    }

    // ---- promise 9

    static void edge09LeastAndGreatestThing() {
        for (int c : ALL) {
            Walkwatch x = with(c, 0, 99);
            Check.same(x.has(c, 0) && x.has(c, 99), true);
            Check.same(x.has(c, 1) || x.has(c, 98), false);
        }
    }

    static void edge09NumbersThatAreNoThings() {
        for (int c : ALL) {
            for (int thing : outside(0, 99)) {
                Check.same(rich().has(c, thing), false);
                Check.same(new Walkwatch().has(c, thing), false);
            }
        }
    }

    static void edge09EmptyAndFull() {
        for (int c : ALL) {
            for (int thing = 0; thing <= 99; thing++) {
                Check.same(new Walkwatch().has(c, thing), false);
                Check.same(full(c).has(c, thing), thing < 40);
            }
        }
    }

    static void edge09WhatWasTakenAway() {
        for (int c : ALL) {
            Walkwatch x = full(c);
            x.drop(c, 39);
            Check.same(x.has(c, 39), false);
            x.clear(c);
            Check.same(x.has(c, 0) || x.has(c, 38), false);
        }
    }

    static void edge09ValuesAreNoKeys() {
        for (int map : MAPS) {
            Walkwatch x = new Walkwatch();
            x.put(map, 1, 50);
            Check.same(x.has(map, 50), false);
        }
    }

    static void edge09NoSuchCollection() {
        needsCollection((x, c) -> x.has(c, 1));
    }

    static void edge09IsAQuestion() {
        for (int c : ALL) {
            Twin.leavesAll(TestBase::rich, x -> x.has(c, 10));
            Twin.leavesAll(TestBase::rich, x -> x.has(c, 11));
        }
    }

    // ---- promise 10

    static void edge10WhatIsNotThere() {
        for (int c : ALL) {
            for (int thing : new int[] {0, 11, 99, -1, 100, LEAST, GREATEST}) {
                Check.same(rich().drop(c, thing), false);
                Check.same(new Walkwatch().drop(c, thing), false);
                Twin.leavesAll(TestBase::rich, x -> x.drop(c, thing));
            }
        }
    }

    static void edge10LeastAndGreatestThing() {
        for (int c : ALL) {
            Walkwatch x = with(c, 0, 50, 99);
            Check.same(x.drop(c, 0), true);
            Check.same(x.drop(c, 99), true);
            Check.same(x.drop(c, 50), true);
            Check.same(x.drop(c, 50), false);
            Check.same(x.size(c), 0);
        }
    }

    static void edge10FirstOneOfAListThatIsLikeIt() {
        for (int list : LISTS) {
            Walkwatch x = with(list, 1, 7, 2, 7, 7);
            Check.same(x.drop(list, 7), true);
            holds(x, list, 1, 2, 7, 7);
            Check.same(x.drop(list, 7), true);
            holds(x, list, 1, 2, 7);
        }
    }

    static void edge10OneOfTheQueueAlone() {
        Walkwatch x = with(8, 7, 7, 3);
        Check.same(x.drop(8, 7), true);
        Check.same(x.size(8), 2);
        Check.same(x.sum(8), 10);
    }

    static void edge10EachOfAFullOne() {
        for (int c : ALL) {
            for (int thing = 0; thing < 40; thing++) {
                Walkwatch x = full(c);
                Check.same(x.drop(c, thing), true);
                Check.same(x.size(c), 39);
                Check.same(x.has(c, thing), false);
                Check.same(x.sum(c), 780 - thing);
            }
        }
    }

    static void edge10IsAChangeOfBuild() {
        for (int c : WALKED) {
            isOfNoUseMore(c, () -> with(c, 3, 4), x -> x.drop(c, 3));
            isOfNoUseMore(c, () -> with(c, 3, 4), x -> x.drop(c, 4));
        }
    }

    static void edge10NoSuchCollection() {
        needsCollection((x, c) -> x.drop(c, 10));
    }

    // ---- promise 11

    static void edge11FirstAndLastPlace() {
        for (int list : LISTS) {
            Walkwatch x = full(list);
            Check.same(x.takeAt(list, 39), 39);
            Check.same(x.takeAt(list, 0), 0);
            Check.same(x.size(list), 38);
            Check.same(x.get(list, 0), 1);
            Check.same(x.get(list, 37), 38);
            Walkwatch one = with(list, 99);
            Check.same(one.takeAt(list, 0), 99);
            Check.same(one.size(list), 0);
        }
    }

    static void edge11NoSuchPlace() {
        for (int list : LISTS) {
            refusesEach(NONE, outside(0, 3), TestBase::rich, (x, place) -> x.takeAt(list, place));
            refusesEach(NONE, outside(0, -1), Walkwatch::new, (x, place) -> x.takeAt(list, place));
            refusesEach(NONE, outside(0, 39), () -> full(list), (x, place) -> x.takeAt(list, place));
        }
    }

    static void edge11ThePlaceCountsAndNotTheThing() {
        for (int list : LISTS) {
            Walkwatch x = with(list, 1, 0, 1);
            Check.same(x.takeAt(list, 2), 1);
            holds(x, list, 1, 0);
        }
    }

    static void edge11IsAChangeOfBuild() {
        for (int list : LISTS) {
            isOfNoUseMore(list, () -> with(list, 3, 4), x -> x.takeAt(list, 0));
            isOfNoUseMore(list, () -> with(list, 3, 4), x -> x.takeAt(list, 1));
        }
    }

    static void edge11NoList() {
        needsOther(NO_LISTS, (x, c) -> x.takeAt(c, 0));
    }

    static void edge11NoSuchCollection() {
        needsCollection((x, c) -> x.takeAt(c, 0));
    }

    static void edge11FirstDocumentedOneOfSeveral() {
        needsCollection((x, c) -> x.takeAt(c, -1));
        needsOther(NO_LISTS, (x, c) -> x.takeAt(c, -1));
    }

    // ---- promise 12

    static void edge12OneAlone() {
        for (int list : LISTS) {
            Check.same(with(list, 7).cut(list, 0, 1), 0);
            Walkwatch x = with(list, 1, 2, 3);
            Check.same(x.cut(list, 2, 1), 2);
            holds(x, list, 1, 2);
            Check.same(x.cut(list, 0, 1), 1);
            holds(x, list, 2);
        }
    }

    static void edge12AllOfForty() {
        for (int list : LISTS) {
            Check.same(full(list).cut(list, 0, 40), 0);
            Walkwatch x = full(list);
            Check.same(x.cut(list, 1, 38), 2);
            holds(x, list, 0, 39);
            Walkwatch y = full(list);
            Check.same(y.cut(list, 38, 2), 38);
            Check.same(y.has(list, 38) || y.has(list, 39), false);
        }
    }

    static void edge12FewerThanOne() {
        for (int list : LISTS) {
            refusesEach(ARGUMENT, new int[] {0, -1, LEAST}, TestBase::rich, (x, many) -> x.cut(list, 0, many));
            refusesEach(ARGUMENT, new int[] {0, -1, LEAST}, Walkwatch::new, (x, many) -> x.cut(list, 0, many));
        }
    }

    static void edge12NotSoManyFromThereOn() {
        for (int list : LISTS) {
            refusesEach(NONE, new int[] {5, 6, 40, GREATEST}, TestBase::rich, (x, many) -> x.cut(list, 0, many));
            refusesEach(NONE, new int[] {2, GREATEST - 2, GREATEST}, TestBase::rich,
                    (x, many) -> x.cut(list, 3, many));
            refusesEach(NONE, outside(0, 3), TestBase::rich, (x, from) -> x.cut(list, from, 1));
            refusesEach(NONE, outside(0, 2), TestBase::rich, (x, from) -> x.cut(list, from, 2));
            refusesEach(NONE, new int[] {-1, 0, 1, LEAST, GREATEST}, Walkwatch::new, (x, from) -> x.cut(list, from, 1));
            Twin.refuses(NONE, () -> full(list), x -> x.cut(list, 0, 41));
            Twin.refuses(NONE, () -> full(list), x -> x.cut(list, 40, 1));
            Twin.refuses(NONE, () -> full(list), x -> x.cut(list, GREATEST, GREATEST));
            Twin.refuses(NONE, () -> full(list), x -> x.cut(list, LEAST, GREATEST));
            Twin.refuses(NONE, () -> full(list), x -> x.cut(list, -1, 41));
        }
    }

    static void edge12IsAChangeOfBuild() {
        for (int list : LISTS) {
            isOfNoUseMore(list, () -> with(list, 3, 4, 5), x -> x.cut(list, 0, 1));
            isOfNoUseMore(list, () -> with(list, 3, 4, 5), x -> x.cut(list, 1, 2));
        }
    }

    static void edge12NoList() {
        needsOther(NO_LISTS, (x, c) -> x.cut(c, 0, 1));
    }

    static void edge12NoSuchCollection() {
        needsCollection((x, c) -> x.cut(c, 0, 1));
    }

    static void edge12FirstDocumentedOneOfSeveral() {
        needsCollection((x, c) -> x.cut(c, -1, 0));
        needsOther(NO_LISTS, (x, c) -> x.cut(c, 0, 0));
        needsOther(NO_LISTS, (x, c) -> x.cut(c, -1, 1));
        for (int list : LISTS) {
            refusesEach(ARGUMENT, outside(0, 3), TestBase::rich, (x, from) -> x.cut(list, from, 0));
            refusesEach(ARGUMENT, outside(0, 3), TestBase::rich, (x, from) -> x.cut(list, from, LEAST));
        }
    }

    // ---- promise 13

    static void edge13OneAlone() {
        for (int c : new int[] {1, 4, 6, 8}) {
            Walkwatch x = with(c, 99);
            Check.same(x.poll(c, false), 99);
            Check.same(x.size(c), 0);
        }
        for (int c : new int[] {1, 4, 6}) {
            Walkwatch x = with(c, 0);
            Check.same(x.poll(c, true), 0);
            Check.same(x.size(c), 0);
        }
    }

    static void edge13AllOfFortyFromBothEnds() {
        for (int c : new int[] {1, 4, 6}) {
            Walkwatch x = full(c);
            for (int i = 0; i < 20; i++) {
                Check.same(x.poll(c, false), i);
                Check.same(x.poll(c, true), 39 - i);
            }
            Check.same(x.size(c), 0);
        }
    }

    static void edge13QueueByRisingThings() {
        Walkwatch x = new Walkwatch();
        for (int i = 0; i < 40; i++) {
            x.add(8, i * 17 % 40);
        }
        for (int i = 0; i < 40; i++) {
            Check.same(x.poll(8, false), i);
        }
    }

    static void edge13NoneThere() {
        for (int c : new int[] {1, 4, 6}) {
            Twin.refuses(NONE, Walkwatch::new, x -> x.poll(c, false));
            Twin.refuses(NONE, Walkwatch::new, x -> x.poll(c, true));
        }
        Twin.refuses(NONE, Walkwatch::new, x -> x.poll(8, false));
    }

    static void edge13NoneOfThese() {
        for (int c : new int[] {0, 2, 3, 5, 7}) {
            Twin.refuses(UNSUPPORTED, TestBase::rich, x -> x.poll(c, false));
            Twin.refuses(UNSUPPORTED, TestBase::rich, x -> x.poll(c, true));
        }
    }

    static void edge13LastOneOfTheQueue() {
        Twin.refuses(UNSUPPORTED, TestBase::rich, x -> x.poll(8, true));
        Twin.refuses(UNSUPPORTED, () -> full(8), x -> x.poll(8, true));
    }

    static void edge13NoSuchCollection() {
        needsCollection((x, c) -> x.poll(c, false));
        needsCollection((x, c) -> x.poll(c, true));
    }

    static void edge13FirstDocumentedOneOfSeveral() {
        for (int c : new int[] {0, 2, 3, 5, 7}) {
            Twin.refuses(UNSUPPORTED, Walkwatch::new, x -> x.poll(c, false));
            Twin.refuses(UNSUPPORTED, Walkwatch::new, x -> x.poll(c, true));
        }
        Twin.refuses(UNSUPPORTED, Walkwatch::new, x -> x.poll(8, true));
    }

    static void edge13IsAChangeOfBuild() {
        for (int c : new int[] {1, 4, 6}) {
            isOfNoUseMore(c, () -> with(c, 3, 4), x -> x.poll(c, false));
            isOfNoUseMore(c, () -> with(c, 3, 4), x -> x.poll(c, true));
        }
    }

    // ---- promise 14

    static void edge14NoneOneAndForty() {
        for (int c : ALL) {
            Check.same(new Walkwatch().clear(c), 0);
            Check.same(with(c, 99).clear(c), 1);
            Walkwatch x = full(c);
            Check.same(x.clear(c), 40);
            Check.same(x.size(c), 0);
            Check.same(x.sum(c), 0);
            Check.same(x.clear(c), 0);
        }
    }

    static void edge14FullAgainBehindIt() {
        for (int c : ALL) {
            Walkwatch x = full(c);
            x.clear(c);
            for (int i = 40; i < 80; i++) {
                Check.same(x.add(c, i), true);
            }
            Check.isRefused(x, STATE, () -> x.add(c, 99));
        }
    }

    static void edge14NothingIsDoneIfThereAreNone() {
        for (int list : LISTS) {
            Walkwatch x = new Walkwatch();
            x.begin(0, list, 'l');
            Check.same(x.clear(list), 0);
            Check.same(x.lay(0, 5), 1);
            Check.same(x.back(0), 5);
            Check.same(x.take(0), 0);
            Check.same(x.clear(list), 0);
            Check.same(x.lay(0, 6), 1);
        }
        for (int c : ALL) {
            Twin.leavesAll(Walkwatch::new, x -> x.clear(c));
        }
    }

    static void edge14IsAChangeOfBuild() {
        for (int c : WALKED) {
            isOfNoUseMore(c, () -> with(c, 3), x -> x.clear(c));
            isOfNoUseMore(c, () -> full(c), x -> x.clear(c));
        }
    }

    static void edge14NoSuchCollection() {
        needsCollection((x, c) -> x.clear(c));
    }

    // ---- promise 15

    private static Walkwatch both(int list, int many, int other, int others) {
        Walkwatch x = new Walkwatch();
        for (int i = 0; i < many; i++) {
            x.add(list, 99);
        }
        for (int i = 0; i < others; i++) {
            x.add(other, i);
        }
        return x;
    }

    static void edge15JustForty() {
        for (int list : LISTS) {
            for (int other : TOLD) {
                if (other != list) {
                    Check.same(both(list, 0, other, 40).addAll(list, other), 40);
                    Check.same(both(list, 1, other, 39).addAll(list, other), 40);
                    Check.same(both(list, 39, other, 1).addAll(list, other), 40);
                    Check.same(both(list, 40, other, 0).addAll(list, other), 40);
                }
            }
        }
    }

    static void edge15MoreThanForty() {
        for (int list : LISTS) {
            for (int other : TOLD) {
                if (other != list) {
                    Twin.refuses(STATE, () -> both(list, 1, other, 40), x -> x.addAll(list, other));
                    Twin.refuses(STATE, () -> both(list, 20, other, 21), x -> x.addAll(list, other));
                    Twin.refuses(STATE, () -> both(list, 40, other, 1), x -> x.addAll(list, other));
                    Twin.refuses(STATE, () -> both(list, 40, other, 40), x -> x.addAll(list, other));
                }
            }
        }
    }

    static void edge15NothingIsDoneIfItHasNone() {
        for (int list : LISTS) {
            for (int other : TOLD) {
                if (other != list) {
                    Check.same(both(list, 3, other, 0).addAll(list, other), 3);
                    isOfUseStill(list, () -> both(list, 3, other, 0), x -> x.addAll(list, other));
                    isOfUseStill(list, () -> both(list, 40, other, 0), x -> x.addAll(list, other));
                    Twin.leavesAll(() -> both(list, 3, other, 0), x -> x.addAll(list, other));
                    Check.same(new Walkwatch().addAll(list, other), 0);
                }
            }
        }
    }

    static void edge15InTheOrderOfItsWalkBehindThoseOfTheList() {
        for (int list : LISTS) {
            for (int other : new int[] {1 - list, 2, 3, 7}) {
                Walkwatch x = with(other, 8, 2, 5);
                x.add(list, 99);
                x.addAll(list, other);
                holds(x, list, 99, 8, 2, 5);
                holds(x, other, 8, 2, 5);
            }
            for (int other : new int[] {4, 6}) {
                Walkwatch x = with(other, 8, 2, 5);
                x.add(list, 99);
                x.addAll(list, other);
                holds(x, list, 99, 2, 5, 8);
                holds(x, other, 2, 5, 8);
            }
            Walkwatch asked = with(3, 8, 2, 5);
            asked.ask(3, 8);
            asked.addAll(list, 3);
            holds(asked, list, 2, 5, 8);
        }
    }

    static void edge15KeysAndNotValues() {
        for (int map : TOLD_MAPS) {
            Walkwatch x = new Walkwatch();
            x.put(map, 1, 77);
            x.addAll(0, map);
            holds(x, 0, 1);
            values(x, map, 77);
        }
    }

    static void edge15IsAChangeOfBuildOfTheListAlone() {
        for (int list : LISTS) {
            for (int other : TOLD) {
                if (other != list) {
                    isOfNoUseMore(list, () -> both(list, 2, other, 1), x -> x.addAll(list, other));
                    isOfUseStill(other, () -> both(list, 2, other, 3), x -> x.addAll(list, other));
                }
            }
        }
    }

    static void edge15NoList() {
        for (int other : ALL) {
            needsOther(NO_LISTS, (x, c) -> x.addAll(c, other));
        }
    }

    static void edge15TheSameOrOneWhoseOrderIsNotTold() {
        for (int list : LISTS) {
            needsOther(new int[] {list, 5, 8}, (x, other) -> x.addAll(list, other));
        }
    }

    static void edge15NoSuchCollectionForEither() {
        needsCollection((x, c) -> x.addAll(c, 0));
        needsCollection((x, c) -> x.addAll(0, c));
        needsCollection((x, c) -> x.addAll(1, c));
        needsCollection((x, c) -> x.addAll(c, c));
    }

    static void edge15FirstDocumentedOneOfSeveral() {
        needsCollection((x, c) -> x.addAll(c, 8));
        needsCollection((x, c) -> x.addAll(8, c));
        for (int list : LISTS) {
            for (int other : new int[] {list, 5, 8}) {
                Twin.refuses(UNSUPPORTED, () -> both(list, 40, other, other == list ? 0 : 40),
                        x -> x.addAll(list, other));
            }
            refusesEach(INDEX, outside(0, 8), () -> full(list), (x, c) -> x.addAll(list, c));
        }
        for (int c : NO_LISTS) {
            Twin.refuses(UNSUPPORTED, () -> both(c, 1, 0, 40), x -> x.addAll(c, 0));
            Twin.refuses(UNSUPPORTED, () -> full(c), x -> x.addAll(c, 0));
        }
    }

    // ---- promise 16

    static void edge16LeastAndGreatestNumbers() {
        for (int c : ALL) {
            for (int by = 1; by <= 9; by++) {
                for (int rest = 0; rest <= 8; rest++) {
                    int due = 0;
                    for (int thing = 0; thing < 40; thing++) {
                        due += thing % by == rest ? 1 : 0;
                    }
                    Walkwatch x = full(c);
                    Check.same(x.sweep(c, by, rest), due);
                    Check.same(x.size(c), 40 - due);
                    Check.same(x.sweep(c, by, rest), 0);
                }
            }
        }
    }

    static void edge16NumberOutOfRange() {
        for (int c : ALL) {
            refusesEach(ARGUMENT, outside(1, 9), TestBase::rich, (x, by) -> x.sweep(c, by, 0));
            refusesEach(ARGUMENT, outside(0, 8), TestBase::rich, (x, rest) -> x.sweep(c, 9, rest));
            refusesEach(ARGUMENT, outside(1, 9), Walkwatch::new, (x, by) -> x.sweep(c, by, 0));
            refusesEach(ARGUMENT, outside(0, 8), Walkwatch::new, (x, rest) -> x.sweep(c, 1, rest));
            Twin.refuses(ARGUMENT, TestBase::rich, x -> x.sweep(c, 0, 9));
        }
    }

    static void edge16AllOfForty() {
        for (int c : ALL) {
            Walkwatch x = full(c);
            Check.same(x.sweep(c, 1, 0), 40);
            Check.same(x.size(c), 0);
        }
    }

    static void edge16OfNone() {
        for (int c : ALL) {
            Check.same(new Walkwatch().sweep(c, 1, 0), 0);
            Twin.leavesAll(Walkwatch::new, x -> x.sweep(c, 1, 0));
        }
    }

    static void edge16RestThatNoThingLeaves() {
        for (int c : ALL) {
            Check.same(full(c).sweep(c, 1, 1), 0);
            Check.same(full(c).sweep(c, 8, 8), 0);
            Twin.leavesAll(TestBase::rich, x -> x.sweep(c, 5, 5));
            Twin.leavesAll(TestBase::rich, x -> x.sweep(c, 9, 8));
        }
    }

    static void edge16ThingsBesideEachOtherFirstAndLast() {
        for (int list : LISTS) {
            Walkwatch x = with(list, 4, 4, 1, 4, 4, 4, 3, 4);
            Check.same(x.sweep(list, 9, 4), 6);
            holds(x, list, 1, 3);
        }
        Walkwatch queue = with(8, 4, 4, 1, 4);
        Check.same(queue.sweep(8, 9, 4), 3);
        Check.same(queue.poll(8, false), 1);
    }

    static void edge16LeavesTheOrderOfTheOthersAndTheirValues() {
        for (int map : new int[] {2, 3}) {
            Walkwatch x = new Walkwatch();
            x.put(map, 9, 90);
            x.put(map, 4, 40);
            x.put(map, 2, 20);
            x.put(map, 7, 70);
            Check.same(x.sweep(map, 2, 0), 2);
            holds(x, map, 9, 7);
            values(x, map, 90, 70);
        }
    }

    static void edge16KeysAndNotValues() {
        for (int map : MAPS) {
            Walkwatch x = new Walkwatch();
            x.put(map, 3, 4);
            Check.same(x.sweep(map, 2, 0), 0);
            Check.same(x.sweep(map, 2, 1), 1);
        }
    }

    static void edge16IsAChangeOfBuildIfOneIsTakenAway() {
        for (int c : WALKED) {
            isOfNoUseMore(c, () -> with(c, 3, 4), x -> x.sweep(c, 9, 3));
            isOfNoUseMore(c, () -> with(c, 3, 4), x -> x.sweep(c, 9, 4));
            isOfUseStill(c, () -> with(c, 3, 4), x -> x.sweep(c, 9, 5));
        }
    }

    static void edge16ByAWalkThatIsToldNowhere() {
        Walkwatch x = rich();
        x.end(7);
        for (int c : ALL) {
            x.sweep(c, 9, 3);
        }
        Check.same(x.kindOf(7), '-');
        for (int w = 0; w <= 6; w++) {
            Check.same(x.kindOf(w), "lkevdse".charAt(w));
            Check.same(x.answered(w), 1);
            Check.same(x.isAtEnd(w), false);
        }
    }

    static void edge16NoSuchCollection() {
        needsCollection((x, c) -> x.sweep(c, 1, 0));
    }

    static void edge16NoSuchCollectionAheadOfNumberOutOfRange() {
        needsCollection((x, c) -> x.sweep(c, 0, 0));
        needsCollection((x, c) -> x.sweep(c, 1, 9));
    }
}
