import java.util.ArrayList;
import java.util.List;

/** 'Terms': a test of its own for each sentence that names a boundary case. */
final class TermsTest extends TestBase {
    private TermsTest() {
    }

    public static void main(String[] args) {
        Check.runAll(TermsTest.class, "terms");
    }

    /** A walk 0 of a collection that has 10, 20, 30 and 40; it has answered one, and is of use. */
    private static Walkwatch walked(int c, char kind) {
        Walkwatch x = rich();
        begin(x, 0, c, kind);
        x.step(0);
        return x;
    }

    private static boolean begin(Walkwatch x, int w, int c, char kind) {
        return kind == 's' ? x.beginSpan(w, 5, 45) : x.begin(w, c, kind);
    }

    private static String kinds(int c) {
        return c == 4 ? KINDS[c] + "s" : KINDS[c];
    }

    private interface OfKind {
        void run(int collection, char kind);
    }

    private static void forEachKind(OfKind test) {
        for (int c : WALKED) {
            for (char kind : kinds(c).toCharArray()) {
                test.run(c, kind);
            }
        }
    }

    /** Calls that are a change of build of a collection as rich() has it. */
    private static List<Twin.Call> changesOfBuild(int c) {
        List<Twin.Call> calls = new ArrayList<>();
        calls.add(x -> x.add(c, 60));
        calls.add(x -> x.drop(c, 10));
        calls.add(x -> x.drop(c, 40));
        calls.add(x -> x.clear(c));
        calls.add(x -> x.sweep(c, 1, 0));
        calls.add(x -> x.sweep(c, 9, 3));
        if (c <= 1) {
            addChangesOfList(calls, c);
        }
        if (c >= 2 && c <= 5) {
            calls.add(x -> x.put(c, 60, 0));
        }
        if (c == 3) {
            calls.add(x -> x.put(3, 10, 0));
            calls.add(x -> x.add(3, 10));
            calls.add(x -> x.ask(3, 10));
            calls.add(x -> x.ask(3, 30));
        }
        if (c == 1 || c == 4 || c == 6) {
            calls.add(x -> x.poll(c, false));
            calls.add(x -> x.poll(c, true));
        }
        if (c != 5 && c != 8) {
            addTakesByOthers(calls, c);
        }
        return calls;
    }

    private static void addChangesOfList(List<Twin.Call> calls, int list) {
        calls.add(x -> x.add(list, 10));
        calls.add(x -> x.insert(list, 0, 10));
        calls.add(x -> x.insert(list, 4, 40));
        calls.add(x -> x.takeAt(list, 0));
        calls.add(x -> x.takeAt(list, 3));
        calls.add(x -> x.cut(list, 3, 1));
        calls.add(x -> x.cut(list, 0, 4));
        calls.add(x -> x.addAll(list, 1 - list));
        calls.add(x -> x.addAll(list, 4));
        calls.add(x -> x.begin(3, list, 'l') ? 0 : x.lay(3, 10));
        calls.add(x -> x.beginAt(3, list, 4) ? x.lay(3, 10) : 0);
        calls.add(x -> x.beginAt(3, list, 4) ? x.back(3) + x.take(3) : 0);
    }

    private static void addTakesByOthers(List<Twin.Call> calls, int c) {
        for (char kind : KINDS[c].toCharArray()) {
            calls.add(x -> x.begin(3, c, kind) ? 0 : x.step(3) + x.take(3));
        }
        if (c == 4) {
            calls.add(x -> x.beginSpan(3, 15, 25) ? 0 : x.step(3) + x.take(3));
        }
    }

    /** Calls that change nothing of the build of a collection as rich() has it. */
    private static List<Twin.Call> noChangesOfBuild(int c) {
        List<Twin.Call> calls = new ArrayList<>();
        calls.add(x -> x.drop(c, 11));
        calls.add(x -> x.sweep(c, 9, 8));
        calls.add(x -> x.sweep(c, 1, 1));
        if (c <= 1) {
            calls.add(x -> x.set(c, 0, 10));
            calls.add(x -> x.set(c, 3, 99));
            calls.add(x -> x.beginAt(3, c, 4) ? x.back(3) + x.change(3, 99) : 0);
            addEmptyAddAll(calls, c);
        }
        if (c == 2 || c >= 4 && c <= 7) {
            calls.add(x -> x.add(c, 10));
        }
        if (c >= 2 && c <= 7) {
            calls.add(x -> x.add(c, 40));
        }
        if (c == 2 || c == 4 || c == 5) {
            calls.add(x -> x.put(c, 10, 99));
            calls.add(x -> x.ask(c, 10));
            calls.add(x -> x.ask(c, 40));
        }
        if (c >= 2 && c <= 5) {
            calls.add(x -> x.put(c, 40, 99));
        }
        if (c >= 2 && c <= 4) {
            calls.add(x -> x.begin(3, c, 'e') ? 0 : x.stepChange(3, 99) + x.stepChange(3, 98));
        }
        return calls;
    }

    private static void addEmptyAddAll(List<Twin.Call> calls, int list) {
        calls.add(x -> x.clear(7) + x.addAll(list, 7));
        calls.add(x -> x.clear(1 - list) + x.addAll(list, 1 - list));
    }

    private static List<Twin.Call> questions(int c) {
        List<Twin.Call> calls = new ArrayList<>();
        calls.add(x -> x.size(c));
        calls.add(x -> x.has(c, 10));
        calls.add(x -> x.has(c, 11));
        calls.add(x -> x.sum(c));
        calls.add(Walkwatch::endShare);
        calls.add(Walkwatch::meanSize);
        calls.add(Walkwatch::checksum);
        calls.add(Walkwatch::isTrue);
        calls.add(x -> x.answered(0));
        calls.add(x -> x.isAtEnd(0));
        calls.add(x -> x.kindOf(0));
        if (c != 5 && c != 8) {
            calls.add(x -> x.thingAt(c, 3));
        }
        if (c >= 2 && c <= 4) {
            calls.add(x -> x.valueAt(c, 0));
        }
        if (c <= 1) {
            calls.add(x -> x.get(c, 3));
        }
        return calls;
    }

    /** The walk 0 is refused by all that it does, each time, and nothing is changed by that. */
    private static void isOfNoUse(Walkwatch x, int c, char kind) {
        String before = Look.at(x);
        for (int time = 0; time < 2; time++) {
            Check.isThrown(kind == 's' ? STATE : CHANGED, () -> x.step(0));
            Check.isThrown(c == 5 ? UNSUPPORTED : CHANGED, () -> x.take(0));
            if (kind == 'l') {
                Check.isThrown(CHANGED, () -> x.back(0));
                Check.isThrown(CHANGED, () -> x.lay(0, 1));
                Check.isThrown(CHANGED, () -> x.change(0, 1));
            }
            if (kind == 'e' && c != 5) {
                Check.isThrown(CHANGED, () -> x.stepChange(0, 1));
            }
        }
        Check.same(Look.at(x), before);
    }

    /** The walk 0 goes on: it answers the three that it has yet to answer. */
    private static void isOfUse(Walkwatch x, int c, char kind) {
        int before = x.answered(0);
        for (int i = 0; i < 3; i++) {
            Check.same(x.isAtEnd(0), false);
            x.step(0);
        }
        Check.same(x.isAtEnd(0), true);
        Check.same(x.answered(0), before + 3);
        if (c != 5) {
            Check.same(x.take(0), 3);
        }
        if (kind == 'l') {
            Check.same(x.lay(0, 1), 4);
        }
    }

    // ---- a walk's use

    static void termsOfUseToTheFirstChangeOfBuild() {
        forEachKind((c, kind) -> {
            for (Twin.Call call : changesOfBuild(c)) {
                Walkwatch x = walked(c, kind);
                call.on(x);
                isOfNoUse(x, c, kind);
            }
        });
    }

    static void termsNeverAgainOfUse() {
        forEachKind((c, kind) -> {
            Walkwatch x = walked(c, kind);
            x.add(c, 60);
            x.drop(c, 60);
            isOfNoUse(x, c, kind);
            for (int i = 0; i < 300; i++) {
                x.add(c, 60);
                x.drop(c, 60);
            }
            isOfNoUse(x, c, kind);
        });
    }

    static void termsNeverAgainOfUseThoughTheOrderIsTheSameAgain() {
        Walkwatch x = walked(3, 'k');
        for (int key = 10; key <= 40; key += 10) {
            x.ask(3, key);
        }
        holds(x, 3, 10, 20, 30, 40);
        isOfNoUse(x, 3, 'k');
    }

    static void termsNoOtherChangeCostsUse() {
        forEachKind((c, kind) -> {
            for (Twin.Call call : noChangesOfBuild(c)) {
                Walkwatch x = walked(c, kind);
                call.on(x);
                isOfUse(x, c, kind);
            }
        });
    }

    static void termsNoQuestionCostsUse() {
        forEachKind((c, kind) -> {
            for (Twin.Call call : questions(c)) {
                Twin.leavesAll(() -> walked(c, kind), call);
            }
        });
    }

    static void termsAskingTheMapByAskingCostsUse() {
        for (char kind : KINDS[3].toCharArray()) {
            Walkwatch x = walked(3, kind);
            Check.same(x.ask(3, 30), 3);
            isOfNoUse(x, 3, kind);
            Walkwatch y = walked(3, kind);
            Check.isThrown(UNSUPPORTED, () -> y.ask(3, 40));
            Check.isThrown(NONE, () -> y.ask(3, 41));
            isOfUse(y, 3, kind);
        }
    }

    static void termsNoOtherWalksStepCostsUse() {
        forEachKind((c, kind) -> {
            Walkwatch x = walked(c, kind);
            for (char other : KINDS[c].toCharArray()) {
                x.begin(1, c, other);
                x.step(1);
                x.step(1);
                if (other == 'l') {
                    x.back(1);
                }
                x.end(1);
            }
            isOfUse(x, c, kind);
        });
    }

    static void termsNoChangeOfAnotherCollectionCostsUse() {
        forEachKind((c, kind) -> {
            for (int other : ALL) {
                if (other != c) {
                    for (Twin.Call call : changesOfBuild(other)) {
                        Walkwatch x = walked(c, kind);
                        call.on(x);
                        isOfUse(x, c, kind);
                    }
                }
            }
        });
    }

    static void termsItsOwnChangeOfBuildCostsTheOthersTheirUseAlone() {
        forEachKind((c, kind) -> {
            if (c == 5) {
                return;
            }
            for (char other : kinds(c).toCharArray()) {
                Walkwatch x = walked(c, other);
                begin(x, 1, c, kind);
                x.step(1);
                Check.same(x.take(1), 3);
                isOfNoUse(x, c, other);
                x.step(1);
                Check.same(x.take(1), 2);
                Check.same(x.answered(1), 2);
            }
        });
    }

    static void termsNoRefusalCostsUse() {
        for (Refusal refusal : refusals()) {
            Twin.refuses(refusal.due, TestBase::rich, refusal.call);
            Twin.refuses(refusal.due, TermsTest::withWalkOfSet, refusal.call);
        }
    }

    static void termsNoRefusalBringsUseBack() {
        for (Refusal refusal : refusals()) {
            Twin.leavesAll(TestBase::spoiled, refusal.call);
        }
    }

    /** Like rich(), but with a walk of the set 6, and with none under the number 6. */
    private static Walkwatch withWalkOfSet() {
        Walkwatch x = rich();
        x.begin(7, 6, 'k');
        x.step(7);
        x.end(6);
        return x;
    }

    private static final class Refusal {
        final Class<? extends RuntimeException> due;
        final Twin.Call call;

        Refusal(Class<? extends RuntimeException> due, Twin.Call call) {
            this.due = due;
            this.call = call;
        }
    }

    private static List<Refusal> refusals() {
        List<Refusal> all = new ArrayList<>();
        addRefusalsOfCollections(all);
        addRefusalsOfWalks(all);
        return all;
    }

    private static void addRefusalsOfCollections(List<Refusal> all) {
        all.add(new Refusal(INDEX, x -> x.size(9)));
        all.add(new Refusal(INDEX, x -> x.add(-1, 1)));
        all.add(new Refusal(ARGUMENT, x -> x.add(0, 100)));
        all.add(new Refusal(UNSUPPORTED, x -> x.insert(4, 0, 1)));
        all.add(new Refusal(NONE, x -> x.insert(0, 5, 1)));
        all.add(new Refusal(ARGUMENT, x -> x.insert(1, 0, -1)));
        all.add(new Refusal(UNSUPPORTED, x -> x.put(6, 1, 1)));
        all.add(new Refusal(ARGUMENT, x -> x.put(2, 10, 100)));
        all.add(new Refusal(ARGUMENT, x -> x.put(3, 100, 1)));
        all.add(new Refusal(NONE, x -> x.set(0, 4, 1)));
        all.add(new Refusal(ARGUMENT, x -> x.set(1, 1, 100)));
        all.add(new Refusal(NONE, x -> x.get(0, 4)));
        all.add(new Refusal(UNSUPPORTED, x -> x.ask(3, 40)));
        all.add(new Refusal(NONE, x -> x.ask(3, 11)));
        all.add(new Refusal(INDEX, x -> x.has(9, 10)));
        all.add(new Refusal(INDEX, x -> x.drop(-1, 10)));
        all.add(new Refusal(NONE, x -> x.takeAt(0, 4)));
        all.add(new Refusal(ARGUMENT, x -> x.cut(0, 0, 0)));
        all.add(new Refusal(NONE, x -> x.cut(1, 1, 4)));
        all.add(new Refusal(UNSUPPORTED, x -> x.poll(8, true)));
        all.add(new Refusal(UNSUPPORTED, x -> x.poll(0, false)));
        all.add(new Refusal(INDEX, x -> x.clear(9)));
        all.add(new Refusal(UNSUPPORTED, x -> x.addAll(0, 5)));
        all.add(new Refusal(UNSUPPORTED, x -> x.addAll(1, 1)));
        all.add(new Refusal(INDEX, x -> x.addAll(0, 9)));
        all.add(new Refusal(ARGUMENT, x -> x.sweep(0, 10, 0)));
        all.add(new Refusal(ARGUMENT, x -> x.sweep(4, 1, 9)));
        all.add(new Refusal(UNSUPPORTED, x -> x.thingAt(8, 0)));
        all.add(new Refusal(NONE, x -> x.thingAt(3, 4)));
        all.add(new Refusal(UNSUPPORTED, x -> x.valueAt(5, 0)));
        all.add(new Refusal(NONE, x -> x.valueAt(3, 4)));
        all.add(new Refusal(INDEX, x -> x.sum(9)));
    }

    private static void addRefusalsOfWalks(List<Refusal> all) {
        for (int walk = 0; walk <= 7; walk++) {
            int w = walk;
            all.add(new Refusal(INDEX, x -> x.begin(w, 9, 'k')));
            all.add(new Refusal(ARGUMENT, x -> x.begin(w, 0, 's')));
            all.add(new Refusal(UNSUPPORTED, x -> x.begin(w, 8, 'k')));
            all.add(new Refusal(UNSUPPORTED, x -> x.beginAt(w, 2, 0)));
            all.add(new Refusal(NONE, x -> x.beginAt(w, 0, 5)));
            all.add(new Refusal(ARGUMENT, x -> x.beginSpan(w, 1, 0)));
        }
        for (int w : outside(0, 7)) {
            all.add(new Refusal(INDEX, x -> x.step(w)));
            all.add(new Refusal(INDEX, x -> x.take(w)));
            all.add(new Refusal(INDEX, x -> x.end(w)));
        }
        for (int walk = 1; walk <= 5; walk++) {
            int w = walk;
            all.add(new Refusal(UNSUPPORTED, x -> x.back(w)));
            all.add(new Refusal(UNSUPPORTED, x -> x.lay(w, 1)));
            all.add(new Refusal(UNSUPPORTED, x -> x.change(w, 1)));
            all.add(new Refusal(UNSUPPORTED, x -> x.place(w)));
        }
        all.add(new Refusal(UNSUPPORTED, x -> x.stepChange(0, 1)));
        all.add(new Refusal(ARGUMENT, x -> x.stepChange(2, 100)));
        all.add(new Refusal(ARGUMENT, x -> x.lay(0, 100)));
        all.add(new Refusal(ARGUMENT, x -> x.change(0, 100)));
    }

    // ---- the theorem

    static void termsWhatItAnsweredAndWhatItHasYetToAnswerAreTheCollection() {
        forEachKind((c, kind) -> {
            if (c == 5) {
                return;
            }
            Walkwatch x = rich();
            begin(x, 0, c, kind);
            for (int i = 0; i < 4; i++) {
                int index = kind == 'd' ? 3 - i : i;
                int key = x.thingAt(c, index);
                int due = kind == 'v' ? x.valueAt(c, index) : kind == 'e' ? 100 * key + x.valueAt(c, index) : key;
                Check.same(x.isAtEnd(0), false);
                Check.same(x.step(0), due);
            }
            Check.same(x.isAtEnd(0), true);
            Check.isRefused(x, NONE, () -> x.step(0));
        });
    }

    static void termsAheadOfItsPlaceButForWhatItTookPutOrLaid() {
        for (int list : LISTS) {
            Walkwatch x = with(list, 1, 2, 3, 4, 5);
            x.begin(0, list, 'l');
            Check.same(x.step(0), 1);
            Check.same(x.step(0), 2);
            Check.same(x.take(0), 4);
            Check.same(x.step(0), 3);
            Check.same(x.change(0, 30), 2);
            Check.same(x.lay(0, 31), 3);
            holds(x, list, 1, 30, 31, 4, 5);
            Check.same(x.step(0), 4);
            Check.same(x.step(0), 5);
            Check.same(x.isAtEnd(0), true);
        }
    }

    // ---- collections

    static void termsCollectionsAreEmptyAtFirst() {
        for (int c : ALL) {
            Check.same(new Walkwatch().size(c), 0);
        }
    }

    static void termsAtMostFortyOfEach() {
        Walkwatch x = new Walkwatch();
        for (int c : ALL) {
            for (int i = 0; i < 40; i++) {
                Check.same(x.add(c, 2 * i), true);
            }
            Check.isRefused(x, STATE, () -> x.add(c, 99));
        }
        Check.same(x.meanSize(), 40.0);
    }

    static void termsQueueHasTheLeastOnesFirst() {
        Walkwatch x = with(8, 99, 0, 50, 0, 99);
        for (int due : new int[] {0, 0, 50, 99, 99}) {
            Check.same(x.poll(8, false), due);
        }
    }

    static void termsOrderInWhichKeysCameThatWereNotThere() {
        for (int c : new int[] {2, 7}) {
            Walkwatch x = with(c, 99, 0, 50);
            x.add(c, 99);
            holds(x, c, 99, 0, 50);
            x.drop(c, 99);
            x.add(c, 99);
            holds(x, c, 0, 50, 99);
        }
        Walkwatch x = with(2, 99, 0, 50);
        x.put(2, 99, 1);
        x.ask(2, 0);
        holds(x, 2, 99, 0, 50);
    }

    static void termsOrderInWhichEachKeyWasLastPutInOrAskedFor() {
        Walkwatch x = with(3, 1, 2, 3, 4);
        x.put(3, 1, 9);
        holds(x, 3, 2, 3, 4, 1);
        x.add(3, 2);
        holds(x, 3, 3, 4, 1, 2);
        x.ask(3, 3);
        holds(x, 3, 4, 1, 2, 3);
        values(x, 3, 0, 9, 0, 0);
    }

    static void termsOrderOfTheMapByAskingIsLeftByAllOthers() {
        Twin.Setup setup = () -> with(3, 1, 2, 3);
        Twin.leavesAll(setup, x -> x.has(3, 1));
        Twin.leavesAll(setup, x -> x.valueAt(3, 0));
        Twin.leavesAll(setup, x -> x.thingAt(3, 0));
        Twin.leavesAll(setup, x -> x.sum(3));
        Twin.leavesAll(setup, x -> x.sweep(3, 9, 8));
        Twin.leavesAll(setup, Walkwatch::isTrue);
        Twin.leavesAll(setup, Walkwatch::checksum);
        for (char kind : KINDS[3].toCharArray()) {
            Walkwatch x = setup.make();
            x.begin(0, 3, kind);
            x.step(0);
            holds(x, 3, 1, 2, 3);
        }
        Walkwatch x = setup.make();
        x.begin(0, 3, 'e');
        x.stepChange(0, 7);
        x.addAll(0, 3);
        holds(x, 3, 1, 2, 3);
    }

    static void termsOrderByRisingNumbers() {
        for (int c : new int[] {4, 6}) {
            Walkwatch x = with(c, 99, 0, 50, 1, 98);
            holds(x, c, 0, 1, 50, 98, 99);
            x.drop(c, 0);
            x.add(c, 0);
            holds(x, c, 0, 1, 50, 98, 99);
        }
    }

    // ---- walks

    static void termsNoWalksAtFirst() {
        for (int w = 0; w <= 7; w++) {
            Check.same(new Walkwatch().kindOf(w), '-');
        }
    }

    static void termsKindsOfEachCollection() {
        for (int c : ALL) {
            for (char kind : "kvedl".toCharArray()) {
                Walkwatch x = rich();
                if (KINDS[c].indexOf(kind) >= 0) {
                    Check.same(x.begin(0, c, kind), false);
                } else {
                    Check.isRefused(x, UNSUPPORTED, () -> x.begin(0, c, kind));
                }
            }
        }
    }

    static void termsSpanGoesByRisingKeys() {
        Walkwatch x = with(4, 9, 1, 5, 3, 7);
        x.beginSpan(0, 2, 9);
        Check.same(x.step(0), 3);
        Check.same(x.step(0), 5);
        Check.same(x.step(0), 7);
        Check.same(x.isAtEnd(0), true);
    }

    static void termsSpanOfNoUseIsNotAskedOnByStep() {
        Walkwatch x = walked(4, 's');
        x.add(4, 1);
        isOfNoUse(x, 4, 's');
    }

    static void termsStepAndBackStandBehindAndAhead() {
        for (int list : LISTS) {
            Walkwatch x = with(list, 1, 2);
            x.begin(0, list, 'l');
            Check.same(x.step(0), 1);
            Check.same(x.place(0), 1);
            Check.same(x.back(0), 1);
            Check.same(x.place(0), 0);
            Check.same(x.step(0), 1);
            Check.same(x.step(0), 2);
            Check.same(x.back(0), 2);
            Check.same(x.back(0), 1);
            Check.same(x.step(0), 1);
        }
    }

    static void termsWhatItAnsweredLastIsTakenOnce() {
        forEachKind((c, kind) -> {
            if (c != 5) {
                Walkwatch x = walked(c, kind);
                Check.same(x.take(0), 3);
                Check.isRefused(x, STATE, () -> x.take(0));
                x.step(0);
                Check.same(x.take(0), 2);
            }
        });
    }

    static void termsWhatItAnsweredLastIsChangedAgainAndAgain() {
        for (int list : LISTS) {
            Walkwatch x = walked(list, 'l');
            for (int i = 0; i < 5; i++) {
                Check.same(x.change(0, i), 1);
                Check.same(x.get(list, 0), i);
            }
            Check.same(x.take(0), 3);
            Check.isRefused(x, STATE, () -> x.change(0, 1));
        }
    }

    static void termsNothingToTakeOrChangeSinceItLaid() {
        for (int list : LISTS) {
            Walkwatch x = walked(list, 'l');
            Check.same(x.lay(0, 11), 2);
            Check.isRefused(x, STATE, () -> x.take(0));
            Check.isRefused(x, STATE, () -> x.change(0, 1));
            Check.same(x.back(0), 11);
            Check.same(x.change(0, 12), 1);
            Check.same(x.take(0), 4);
        }
    }

    static void termsWhatItLaysStandsAheadOfItsPlace() {
        for (int list : LISTS) {
            Walkwatch x = walked(list, 'l');
            x.lay(0, 11);
            Check.same(x.place(0), 2);
            holds(x, list, 10, 11, 20, 30, 40);
            Check.same(x.step(0), 20);
        }
    }

    static void termsOneThatWasAtItsEndHasNoNextOneWhateverComesSince() {
        forEachKind((c, kind) -> {
            for (Twin.Call call : changesOfBuild(c)) {
                Walkwatch x = walked(c, kind);
                x.step(0);
                x.step(0);
                x.step(0);
                call.on(x);
                Check.same(x.isAtEnd(0), true);
                Check.isRefused(x, NONE, () -> x.step(0));
                Check.isRefused(x, NONE, () -> x.stepChange(0, 1));
            }
        });
    }

    static void termsOneThatWasAtTheBeginningHasNoneAheadWhateverComesSince() {
        for (int list : LISTS) {
            for (Twin.Call call : changesOfBuild(list)) {
                Walkwatch x = rich();
                x.begin(0, list, 'l');
                call.on(x);
                Check.same(x.place(0), 0);
                Check.isRefused(x, NONE, () -> x.back(0));
            }
        }
    }

    static void termsOneThatWasNeitherIsRefusedThoughItWouldBeNow() {
        for (int list : LISTS) {
            Walkwatch x = walked(list, 'l');
            x.clear(list);
            Check.same(x.isAtEnd(0), false);
            Check.isRefused(x, CHANGED, () -> x.step(0));
            Check.isRefused(x, CHANGED, () -> x.back(0));
        }
    }
}
