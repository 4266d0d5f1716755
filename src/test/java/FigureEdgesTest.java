import java.math.BigInteger;
import java.util.ArrayList;
import java.util.Arrays;
import java.util.List;

/** Promises 31 to 37: a test of its own for each sentence that names a boundary case. */
final class FigureEdgesTest extends TestBase {
    private FigureEdgesTest() {
    }

    public static void main(String[] args) {
        Check.runAll(FigureEdgesTest.class, "edge");
    }

    private static Walkwatch allFull(int thing) {
        Walkwatch x = new Walkwatch();
        for (int c : ALL) {
            for (int i = 0; i < 40; i++) {
                x.add(c, thing - i);
            }
        }
        return x;
    }

    // ---- promise 31

    static void edge31FirstAndLastPlace() {
        for (int c : TOLD) {
            Check.same(with(c, 99).thingAt(c, 0), 99);
            Check.same(full(c).thingAt(c, 0), 0);
            Check.same(full(c).thingAt(c, 1), 1);
            Check.same(full(c).thingAt(c, 39), 39);
        }
    }

    static void edge31NoSuchPlace() {
        for (int c : TOLD) {
            refusesEach(NONE, outside(0, 3), TestBase::rich, (x, index) -> x.thingAt(c, index));
            refusesEach(NONE, outside(0, -1), Walkwatch::new, (x, index) -> x.thingAt(c, index));
            refusesEach(NONE, outside(0, 39), () -> full(c), (x, index) -> x.thingAt(c, index));
        }
    }

    static void edge31OrderIsNotTold() {
        needsOther(new int[] {5, 8}, (x, c) -> x.thingAt(c, 0));
        refusesEach(UNSUPPORTED, new int[] {5, 8}, () -> allFull(99), (x, c) -> x.thingAt(c, 39));
    }

    static void edge31NoSuchCollection() {
        needsCollection((x, c) -> x.thingAt(c, 0));
    }

    static void edge31FirstDocumentedOneOfSeveral() {
        needsCollection((x, c) -> x.thingAt(c, -1));
        needsOther(new int[] {5, 8}, (x, c) -> x.thingAt(c, -1));
        needsOther(new int[] {5, 8}, (x, c) -> x.thingAt(c, 40));
    }

    static void edge31IsAQuestionByAWalkThatIsToldNowhere() {
        for (int c : TOLD) {
            for (int index = 0; index < 4; index++) {
                int place = index;
                Twin.leavesAll(TestBase::rich, x -> x.thingAt(c, place));
            }
        }
        Twin.leavesAll(() -> with(0, 5), x -> x.thingAt(0, 0));
    }

    // ---- promise 32

    static void edge32FirstAndLastPlace() {
        for (int map : TOLD_MAPS) {
            Walkwatch x = new Walkwatch();
            for (int i = 0; i < 40; i++) {
                x.put(map, i, 99 - i);
            }
            Check.same(x.valueAt(map, 0), 99);
            Check.same(x.valueAt(map, 1), 98);
            Check.same(x.valueAt(map, 39), 60);
            Check.same(with(map, 99).valueAt(map, 0), 0);
        }
    }

    static void edge32NoSuchPlace() {
        for (int map : TOLD_MAPS) {
            refusesEach(NONE, outside(0, 3), TestBase::rich, (x, index) -> x.valueAt(map, index));
            refusesEach(NONE, outside(0, -1), Walkwatch::new, (x, index) -> x.valueAt(map, index));
            refusesEach(NONE, outside(0, 39), () -> full(map), (x, index) -> x.valueAt(map, index));
        }
    }

    static void edge32NoMapOrItsOrderIsNotTold() {
        needsOther(NO_MAPS, (x, c) -> x.valueAt(c, 0));
        needsOther(new int[] {5}, (x, c) -> x.valueAt(c, 0));
    }

    static void edge32NoSuchCollection() {
        needsCollection((x, c) -> x.valueAt(c, 0));
    }

    static void edge32FirstDocumentedOneOfSeveral() {
        needsCollection((x, c) -> x.valueAt(c, -1));
        needsOther(NO_MAPS, (x, c) -> x.valueAt(c, -1));
        needsOther(new int[] {5}, (x, c) -> x.valueAt(c, 40));
    }

    static void edge32IsAQuestionByAWalkThatIsToldNowhere() {
        for (int map : TOLD_MAPS) {
            for (int index = 0; index < 4; index++) {
                int place = index;
                Twin.leavesAll(TestBase::rich, x -> x.valueAt(map, place));
            }
        }
    }

    static void edge32InTheOrderOfTheWalk() {
        Walkwatch x = rich();
        x.ask(3, 10);
        values(x, 3, 2, 3, 4, 1);
        Walkwatch y = new Walkwatch();
        y.put(4, 9, 1);
        y.put(4, 0, 2);
        values(y, 4, 2, 1);
    }

    // ---- promise 33

    static void edge33NoneOneAndForty() {
        for (int c : ALL) {
            Check.same(new Walkwatch().sum(c), 0);
            Check.same(with(c, 0).sum(c), 0);
            Check.same(with(c, 99).sum(c), 99);
            Check.same(allFull(99).sum(c), 40 * 99 - 780);
        }
    }

    static void edge33GreatestSum() {
        for (int c : new int[] {0, 1, 8}) {
            Walkwatch x = new Walkwatch();
            for (int i = 0; i < 40; i++) {
                x.add(c, 99);
            }
            Check.same(x.sum(c), 3960);
        }
    }

    static void edge33KeysAndNotValues() {
        for (int map : MAPS) {
            Walkwatch x = new Walkwatch();
            x.put(map, 1, 99);
            x.put(map, 2, 99);
            Check.same(x.sum(map), 3);
        }
    }

    static void edge33WhatWasTakenAwayCountsNoMore() {
        for (int c : ALL) {
            Walkwatch x = full(c);
            x.drop(c, 39);
            Check.same(x.sum(c), 741);
            x.clear(c);
            Check.same(x.sum(c), 0);
        }
    }

    static void edge33NoSuchCollection() {
        needsCollection((x, c) -> x.sum(c));
    }

    static void edge33IsAQuestion() {
        for (int c : ALL) {
            Twin.leavesAll(TestBase::rich, x -> x.sum(c));
        }
    }

    // ---- promise 34

    static void edge34NoWalks() {
        Twin.refuses(ArithmeticException.class, Walkwatch::new, Walkwatch::endShare);
        Twin.refuses(ArithmeticException.class, () -> allFull(99), Walkwatch::endShare);
    }

    static void edge34NoneAnyMore() {
        Walkwatch x = rich();
        for (int w = 0; w <= 7; w++) {
            x.endShare();
            x.end(w);
        }
        Check.isRefused(x, ArithmeticException.class, x::endShare);
    }

    static void edge34EachShareOfUpToEightWalks() {
        for (int all = 1; all <= 8; all++) {
            for (int ended = 0; ended <= all; ended++) {
                Walkwatch x = with(0, 1);
                for (int w = 0; w < all; w++) {
                    x.begin(w, w < ended ? 1 : 0, 'k');
                }
                Check.same(x.endShare(), (float) ended / (float) all);
            }
        }
    }

    static void edge34EachNumberOfAWalk() {
        for (int w = 0; w <= 7; w++) {
            Walkwatch x = new Walkwatch();
            x.begin(w, 0, 'k');
            Check.same(x.endShare(), 1f);
            x.add(0, 1);
            x.begin(w, 0, 'k');
            Check.same(x.endShare(), 0f);
        }
    }

    static void edge34AsTheyLastDidSomething() {
        Walkwatch x = with(0, 1);
        x.begin(0, 0, 'k');
        x.begin(1, 1, 'k');
        x.clear(0);
        x.add(1, 1);
        Check.same(x.endShare(), 0.5f);
        Check.isThrown(CHANGED, () -> x.step(0));
        Check.isThrown(NONE, () -> x.step(1));
        Check.same(x.endShare(), 0.5f);
    }

    static void edge34OfEachKind() {
        Check.same(rich().endShare(), 1f / 8f);
        Check.same(spoiled().endShare(), 1f / 8f);
    }

    static void edge34IsAQuestion() {
        Twin.leavesAll(TestBase::rich, Walkwatch::endShare);
        Twin.leavesAll(TestBase::spoiled, Walkwatch::endShare);
    }

    // ---- promise 35

    static void edge35FromNoneToForty() {
        Check.same(new Walkwatch().meanSize(), 0.0);
        Check.same(allFull(99).meanSize(), 40.0);
    }

    static void edge35EachSum() {
        Walkwatch x = new Walkwatch();
        int sum = 0;
        for (int c : ALL) {
            for (int i = 0; i < 40; i++) {
                x.add(c, i);
                sum++;
                Check.same(x.meanSize(), (double) sum / 9.0);
            }
        }
        Check.same(sum, 360);
    }

    static void edge35EachCollectionCountsOnce() {
        for (int c : ALL) {
            Check.same(with(c, 99).meanSize(), 1.0 / 9.0);
            Check.same(full(c).meanSize(), 40.0 / 9.0);
        }
    }

    static void edge35IsAQuestion() {
        Twin.leavesAll(TestBase::rich, Walkwatch::meanSize);
    }

    // ---- promise 36

    /** The sum of these parts, those of the collections alone; there are no walks. */
    private static long codesWithoutWalks(long... parts) {
        long[] all = Arrays.copyOf(parts, parts.length + 8);
        Arrays.fill(all, parts.length, all.length, '-');
        return codes(all);
    }

    /** The whole sum, however great, and of that what a long holds of it. */
    private static long codes(long... parts) {
        BigInteger code = BigInteger.valueOf(7);
        for (long part : parts) {
            code = code.multiply(BigInteger.valueOf(31)).add(BigInteger.valueOf(part));
        }
        return code.longValue();
    }

    /** The sum as the document tells it, its parts asked by the other calls. */
    private static long told(Walkwatch x) {
        List<Long> parts = new ArrayList<>();
        for (int c : ALL) {
            parts.add((long) x.size(c));
            if (c == 5 || c == 8) {
                parts.add((long) x.sum(c));
                continue;
            }
            for (int i = 0; i < x.size(c); i++) {
                parts.add((long) x.thingAt(c, i));
                if (c >= 2 && c <= 4) {
                    parts.add((long) x.valueAt(c, i));
                }
            }
        }
        for (int w = 0; w <= 7; w++) {
            parts.add((long) x.kindOf(w));
            if (x.kindOf(w) != '-') {
                parts.add((long) x.answered(w));
                parts.add(x.isAtEnd(w) ? 1L : 0L);
            }
        }
        return codes(parts.stream().mapToLong(Long::longValue).toArray());
    }

    static void edge36OfANewObject() {
        Check.same(new Walkwatch().checksum(), codesWithoutWalks(0, 0, 0, 0, 0, 0, 0, 0, 0, 0, 0));
    }

    static void edge36OfEachCollectionAlone() {
        for (int c : ALL) {
            Check.same(with(c, 99).checksum(), told(with(c, 99)));
            Check.same(with(c, 99).checksum() == new Walkwatch().checksum(), false);
        }
        Check.same(with(0, 99).checksum(), codesWithoutWalks(1, 99, 0, 0, 0, 0, 0, 0, 0, 0, 0, 0));
        Check.same(with(5, 98, 99).checksum(), codesWithoutWalks(0, 0, 0, 0, 0, 2, 197, 0, 0, 0, 0));
        Check.same(with(8, 9, 9).checksum(), codesWithoutWalks(0, 0, 0, 0, 0, 0, 0, 0, 0, 2, 18));
    }

    static void edge36ValueBehindItsKey() {
        Walkwatch x = new Walkwatch();
        x.put(2, 1, 2);
        x.put(2, 3, 4);
        Check.same(x.checksum(), codesWithoutWalks(0, 0, 2, 1, 2, 3, 4, 0, 0, 0, 0, 0, 0, 0, 0));
    }

    static void edge36ValuesOfTheHashMapAreNotInIt() {
        Walkwatch x = with(5, 9);
        long before = x.checksum();
        x.put(5, 9, 99);
        Check.same(x.checksum(), before);
    }

    static void edge36EachWalkWithAndWithoutAnEnd() {
        for (int w = 0; w <= 7; w++) {
            Walkwatch x = with(0, 5);
            x.begin(w, 0, 'k');
            long[] parts = new long[12 + 8 + 2];
            parts[0] = 1;
            parts[1] = 5;
            for (int i = 0; i < 8; i++) {
                parts[12 + i + (i > w ? 2 : 0)] = i == w ? 'k' : '-';
            }
            Check.same(x.checksum(), codes(parts));
            x.step(w);
            parts[12 + w + 1] = 1;
            parts[12 + w + 2] = 1;
            Check.same(x.checksum(), codes(parts));
        }
    }

    static void edge36GoesRound() {
        Walkwatch x = allFull(99);
        for (int w = 0; w <= 7; w++) {
            x.begin(w, w, 'k');
            x.step(w);
        }
        Check.same(x.checksum(), told(x));
        Check.same(told(rich()), rich().checksum());
        Check.same(told(spoiled()), spoiled().checksum());
    }

    static void edge36OrderOfTheQueueIsNotInIt() {
        Walkwatch x = with(8, 1, 2, 3);
        Walkwatch y = with(8, 3, 2, 1);
        Check.same(x.checksum(), y.checksum());
    }

    static void edge36OrderOfAWalkIsInIt() {
        for (int c : new int[] {0, 1, 2, 3, 7}) {
            Check.same(with(c, 1, 2).checksum() == with(c, 2, 1).checksum(), false);
        }
        for (int c : new int[] {4, 6}) {
            Check.same(with(c, 1, 2).checksum(), with(c, 2, 1).checksum());
        }
    }

    static void edge36WhetherAWalkIsOfUseIsNotInIt() {
        Walkwatch x = with(0, 1, 2);
        x.begin(0, 0, 'k');
        long before = x.checksum();
        x.add(0, 3);
        x.takeAt(0, 2);
        Check.same(x.checksum(), before);
    }

    static void edge36IsAQuestion() {
        Twin.leavesAll(TestBase::rich, Walkwatch::checksum);
        Twin.leavesAll(TestBase::spoiled, Walkwatch::checksum);
    }

    // ---- promise 37

    static void edge37OfNoneOneAndForty() {
        Check.same(new Walkwatch().isTrue(), true);
        Check.same(allFull(99).isTrue(), true);
        for (int c : ALL) {
            Check.same(with(c, 0).isTrue(), true);
            Check.same(full(c).isTrue(), true);
        }
    }

    static void edge37OfWalksThatAreOfUseAndNot() {
        Check.same(rich().isTrue(), true);
        Check.same(spoiled().isTrue(), true);
    }

    static void edge37BehindEachChange() {
        Walkwatch x = rich();
        Check.same(x.take(0) == 3 && x.isTrue(), true);
        Check.same(x.lay(0, 9) == 1 && x.isTrue(), true);
        Check.same(x.back(7) == 40 && x.isTrue(), true);
        Check.same(x.change(7, 41) == 3 && x.isTrue(), true);
        Check.same(x.stepChange(2, 77) == 2002 && x.isTrue(), true);
        Check.same(x.ask(3, 10) == 1 && x.isTrue(), true);
        Check.same(x.poll(4, true) == 40 && x.isTrue(), true);
        Check.same(x.sweep(7, 9, 1) == 1 && x.isTrue(), true);
        for (int c : ALL) {
            x.clear(c);
            Check.same(x.isTrue(), true);
        }
    }

    static void edge37LeavesAllWalks() {
        Twin.leavesAll(TestBase::rich, Walkwatch::isTrue);
        Twin.leavesAll(TestBase::spoiled, Walkwatch::isTrue);
        Twin.leavesAll(Walkwatch::new, Walkwatch::isTrue);
    }

    static void edge37OfLikeThingsBesideEachOther() {
        for (int c : new int[] {0, 1, 8}) {
            Check.same(with(c, 5, 5, 5).isTrue(), true);
            Check.same(with(c, 9, 5, 9).isTrue(), true);
        }
    }
}
