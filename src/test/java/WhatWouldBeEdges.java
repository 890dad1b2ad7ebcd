import java.math.BigInteger;
import java.util.ArrayList;
import java.util.List;

/** Promises 22 to 26, sentence by sentence: what would be, and the digest. */
final class WhatWouldBeEdges {
    private static final String GREATEST_LOADS = "000009;000009;000009;000009;000009;000009";

    private final Checks c;

    private WhatWouldBeEdges(Checks checks) {
        c = checks;
    }

    static void hold(Checks checks, Sentences s) {
        WhatWouldBeEdges t = new WhatWouldBeEdges(checks);
        s.in("Promise 22: ifLimit");
        s.hold("Returns the odds with another limit", t::ifLimitChangesNothing);
        s.hold("`limit`: 0 to 99", t::ifLimitAtTheEnds);
        s.hold("Returns the odds then", t::ifLimitAsLimit);
        s.hold("Throws `IllegalArgumentException` if limit is out of range", t::ifLimitOutOfRange);
        s.in("Promise 23: limitFor");
        s.hold("Finds the limit for some odds", t::limitForChangesNothing);
        s.hold("`thousandths`: 0 to 1000", t::limitForAtTheEnds);
        s.hold("Returns the least limit", t::leastLimit);
        s.hold("are at most thousandths times all ways", t::atMost);
        s.hold("in long arithmetic", t::inLongArithmetic);
        s.hold("there always is one", t::alwaysALimit);
        s.hold("Throws `IllegalArgumentException` if thousandths is out of range",
                t::limitForOutOfRange);
        t.holdGreatestAndSlightest(s);
        t.holdDigest(s);
    }

    private void holdGreatestAndSlightest(Sentences s) {
        s.in("Promise 24: greatest");
        s.hold("Returns the greatest correction that a row can have", this::greatestChangesNothing);
        s.hold("whether only faults count", this::onlyFaults);
        s.hold("of a row with a way", this::rowsWithAWay);
        s.hold("found by going through all rows", this::allRows);
        s.hold("0.0 if there is none", this::greatestOfNone);
        s.in("Promise 25: slightest");
        s.hold("Finds the part whose removal would change the odds least",
                this::slightestChangesNothing);
        s.hold("with the same limit, would be greatest", this::slightestByLimit);
        s.hold("of several the lowest number", this::lowestOfSeveral);
        s.hold("NONE without parts", this::slightestOfNone);
    }

    private void holdDigest(Sentences s) {
        s.in("Promise 26: digest");
        s.hold("Computes a hash of the whole state", this::digestChangesNothing);
        s.hold("The hash starts at 2657", this::digestOfNew);
        s.hold("in long arithmetic with overflow", this::digestOverflows);
        s.hold("for each part its properties 0 to 6, its weights, its tilted weights",
                this::digestOfOnePart);
        s.hold("ways of the sums 0, 5 and 10", this::digestOfWays);
        s.hold("as Double.doubleToLongBits", this::digestOfDoubles);
        s.hold("limitFor of 100", this::digestOfLimitFor);
        s.hold("the length of the buffer and each of its character codes", this::digestOfBuffers);
        s.hold("Returns the hash", this::digestTellsApart);
    }

    // ---- promise 22

    private void ifLimitChangesNothing() {
        c.looked("ifLimit", Makers::busy, x -> x.ifLimit(7));
        RareFaults x = Makers.busy();
        x.ifLimit(99);
        c.due("the limit", 4, x.count(1));
        c.due("samples", 25, x.count(3));
    }

    private void ifLimitAtTheEnds() {
        RareFaults x = Checks.plantOf(Makers.MOST);
        c.due("from 0", 1.0, x.ifLimit(0));
        c.due("from 30", 531441.0 / 24794911296.0, x.ifLimit(30));
        for (int limit : new int[] {31, 62, 99}) {
            c.due("from " + limit, 0.0, x.ifLimit(limit));
        }
        c.due("without parts, from 0", 1.0, new RareFaults().ifLimit(0));
        c.due("without parts, from 1", 0.0, new RareFaults().ifLimit(1));
    }

    private void ifLimitAsLimit() {
        RareFaults x = Makers.full();
        RareFaults y = Makers.full();
        for (int limit = 0; limit <= 99; limit++) {
            y.limit(limit);
            c.due("from " + limit, y.measure(0), x.ifLimit(limit));
        }
    }

    private void ifLimitOutOfRange() {
        c.range("ifLimit", 0, 99, Makers.NO_ARGUMENT, Makers::busy, RareFaults::ifLimit);
        c.range("ifLimit without parts", 0, 99, Makers.NO_ARGUMENT, RareFaults::new,
                RareFaults::ifLimit);
    }

    // ---- promise 23

    private void limitForChangesNothing() {
        c.looked("limitFor", Makers::busy, x -> x.limitFor(500));
    }

    private void limitForAtTheEnds() {
        RareFaults x = Checks.plantOf("12;305");
        c.due("of 0", 4, x.limitFor(0));
        c.due("of 1000", 0, x.limitFor(1000));
        c.due("of 999", 1, x.limitFor(999));
        c.due("of 1", 4, x.limitFor(1));
    }

    private void leastLimit() {
        c.due("of 999, all at 30", 31, Checks.plantOf(GREATEST_LOADS).limitFor(999));
        c.due("of 1000, all at 30", 0, Checks.plantOf(GREATEST_LOADS).limitFor(1000));
        // limits 1 to 3 have the same odds
        c.due("of three with the same odds", 1, Checks.plantOf("1001").limitFor(500));
        c.due("of less than theirs", 4, Checks.plantOf("1001").limitFor(499));
        c.due("of less than 1000", 1, Checks.plantOf("1001").limitFor(999));
    }

    private void atMost() {
        // of 8 ways, there are 8 from 0, 7 from 1, 4 from 2, 1 from 3
        int[][] cases = {{875, 1}, {874, 2}, {500, 2}, {499, 3}, {125, 3}, {124, 4}};
        for (int[] one : cases) {
            c.due("of " + one[0], one[1], Checks.plantOf("11;11;11").limitFor(one[0]));
        }
        // a third is more than 333 thousandths
        c.due("of 333 for a third", 2, Checks.plantOf("21").limitFor(333));
        c.due("of 334 for a third", 1, Checks.plantOf("21").limitFor(334));
    }

    private void inLongArithmetic() {
        RareFaults x = Checks.plantOf(Makers.MOST);
        BigInteger all = BigInteger.valueOf(x.ways(0, true));
        for (int thousandths = 0; thousandths <= 1000; thousandths += 4) {
            BigInteger most = all.multiply(BigInteger.valueOf(thousandths));
            int want = 0;
            while (BigInteger.valueOf(x.ways(want, true) * 1000).compareTo(most) > 0) {
                want++;
            }
            c.due("of " + thousandths, want, Checks.plantOf(Makers.MOST).limitFor(thousandths));
        }
    }

    private void alwaysALimit() {
        c.due("of 0, of most parts", 31, Checks.plantOf(Makers.MOST).limitFor(0));
        c.due("of 0, all at 30", 31, Checks.plantOf(GREATEST_LOADS).limitFor(0));
        c.due("of 0, all at 0", 1, Checks.plantOf("1").limitFor(0));
        c.due("of 0, without parts", 1, new RareFaults().limitFor(0));
        c.due("of 999, without parts", 1, new RareFaults().limitFor(999));
        c.due("of 1000, without parts", 0, new RareFaults().limitFor(1000));
    }

    private void limitForOutOfRange() {
        c.range("limitFor", 0, 1000, Makers.NO_ARGUMENT, Makers::busy, RareFaults::limitFor);
        c.range("limitFor without parts", 0, 1000, Makers.NO_ARGUMENT, RareFaults::new,
                RareFaults::limitFor);
    }

    // ---- promise 24

    private void greatestChangesNothing() {
        c.looked("greatest of all", Makers::busy, x -> x.greatest(false));
        c.looked("greatest of faults", Makers::busy, x -> x.greatest(true));
    }

    private void onlyFaults() {
        RareFaults x = Checks.plantOf("11");
        x.tilt(0, 1, 3);
        double low = 2.0;
        double high = 1.0 * 1 * 4 / 2 / 3;
        double[] wants = {low, high, 0.0};
        for (int limit = 0; limit < wants.length; limit++) {
            x.limit(limit);
            c.due("of faults from " + limit, wants[limit], x.greatest(true));
            c.due("of all, limit " + limit, low, x.greatest(false));
        }
        RareFaults most = Checks.plantOf(Makers.MOST);
        for (int limit : new int[] {30, 31, 62, 99}) {
            most.limit(limit);
            c.due("of most from " + limit, limit == 30, most.greatest(true) > 0.0);
        }
    }

    private void rowsWithAWay() {
        RareFaults x = Checks.plantOf("101");
        x.tilt(0, 2, 99);
        x.limit(1);
        c.due("of the load 2, for the load 1 has no way", 1.0 * 1 * 100 / 2 / 99, x.greatest(true));
        x.limit(3);
        c.due("of the load 3, which has no way", 0.0, x.greatest(true));
        c.due("of the load 0", 50.0, x.greatest(false));
    }

    private void allRows() {
        RareFaults x = Checks.plantOf("123;305;0072");
        int[][] tilts = {{0, 0, 17}, {0, 2, 5}, {1, 0, 31}, {1, 2, 7}, {2, 2, 3}, {2, 3, 23}};
        for (int[] tilt : tilts) {
            x.tilt(tilt[0], tilt[1], tilt[2]);
        }
        for (int limit = 0; limit <= 8; limit++) {
            x.limit(limit);
            c.due("of faults from " + limit, greatestOf(x, 0, 0, 1.0, limit), x.greatest(true));
            c.due("of all", greatestOf(x, 0, 0, 1.0, 0), x.greatest(false));
        }
    }

    /** The greatest correction of the rows that go on from a part, found by going through them. */
    private static double greatestOf(RareFaults x, int part, int sum, double before, int limit) {
        if (part == x.count(0)) {
            return sum >= limit ? before : 0.0;
        }
        double greatest = 0.0;
        for (int load = 0; load <= 5; load++) {
            if (x.weight(part, load, false) > 0) {
                double correction = before * x.weight(part, load, false) * x.part(part, 1)
                        / x.part(part, 0) / x.weight(part, load, true);
                greatest = Math.max(greatest,
                        greatestOf(x, part + 1, sum + load, correction, limit));
            }
        }
        return greatest;
    }

    private void greatestOfNone() {
        RareFaults x = Checks.plantOf("12;305");
        c.due("of no fault", 0.0, x.greatest(true));
        x.limit(3);
        c.due("of one fault", 1.0, x.greatest(true));
        RareFaults empty = new RareFaults();
        c.due("of no fault, without parts", 0.0, empty.greatest(true));
        c.due("of the row without loads", 1.0, empty.greatest(false));
        empty.limit(0);
        c.due("of the fault without loads", 1.0, empty.greatest(true));
    }

    // ---- promise 25

    private void slightestChangesNothing() {
        c.looked("slightest", Makers::busy, RareFaults::slightest);
        c.looked("slightest of six", Makers::full, RareFaults::slightest);
    }

    private void slightestByLimit() {
        // without part 0 the odds from 2 are 0, without part 1 they are 1 / 2, from 3 the same
        RareFaults x = Checks.plantOf("001001;11");
        x.limit(2);
        c.due("from 2", 1, x.slightest());
        RareFaults last = Checks.plantOf("01;001;0001;00001;000001;1");
        last.limit(15);
        c.due("the last one of six, which adds nothing", 5, last.slightest());
        RareFaults loads = Checks.plantOf("000001;00001;0001;001;01;11");
        loads.limit(14);
        c.due("from 14", 4, loads.slightest());
        loads.limit(15);
        c.due("from 15, the part whose load 0 is as likely", 5, loads.slightest());
        loads.limit(16);
        c.due("from 16, of none that would do", 0, loads.slightest());
    }

    private void lowestOfSeveral() {
        c.due("of two alike", 0, Checks.plantOf("11;11").slightest());
        RareFaults x = Checks.plantOf("11;91;91");
        x.limit(2);
        c.due("of the second and the third", 1, x.slightest());
        RareFaults all = Makers.full();
        all.limit(0);
        c.due("of six with the odds 1.0", 0, all.slightest());
        all.limit(99);
        c.due("of six with the odds 0.0", 0, all.slightest());
        c.due("of one", 0, Checks.plantOf("12").slightest());
    }

    private void slightestOfNone() {
        RareFaults x = new RareFaults();
        c.due("without parts", -1, x.slightest());
        x.limit(0);
        c.due("without parts, limit 0", -1, x.slightest());
        x.addPart(0);
        c.due("with a part", 0, x.slightest());
        x.removePart(0);
        c.due("without it", -1, x.slightest());
    }

    // ---- promise 26

    private void digestChangesNothing() {
        c.looked("digest", Makers::busy, RareFaults::digest);
        RareFaults x = Makers.busy();
        c.due("once more", x.digest(), x.digest());
    }

    private static List<Long> list(long... values) {
        List<Long> list = new ArrayList<>();
        for (long value : values) {
            list.add(value);
        }
        return list;
    }

    private void digestOfNew() {
        List<Long> values = list(0, 10, 1, 0, 0, 0, 0, 0, 0);
        values.addAll(list(1, 1, 0, 0, 0, 0));
        values.addAll(list(0, 0, 0, 0, 0, 0, 0, 0, 0));
        values.addAll(list(1, -1, 0));
        c.due("of a new object", Digests.hash(values), new RareFaults().digest());
    }

    private void digestOverflows() {
        RareFaults x = Checks.plantOf(Makers.MOST);
        x.limit(0);
        x.seed(Integer.MAX_VALUE);
        c.due("of most ways", Digests.of(x, ""), x.digest());
        c.due("of many values", Digests.of(Makers.busy(), "1;x"), Makers.busy().digest());
    }

    private void digestOfOnePart() {
        RareFaults x = Checks.plantOf("01");
        x.tilt(0, 1, 4);
        x.limit(1);
        List<Long> values = list(1, 1, 1, 0, 0, 1, 1, 1, 3);
        values.addAll(list(1, 4, 1, 1, 1, 4, -1));
        values.addAll(list(0, 1, 0, 0, 0, 0, 0, 4, 0, 0, 0, 0, 1));
        values.addAll(list(0, 1, 0, 0, 0, 0));
        long one = 0x3FF0000000000000L;
        values.addAll(list(one, 0, 0, 0, 0, 0, one | Long.MIN_VALUE));
        values.addAll(list(0, one, 2, 0, 0));
        c.due("of one part", Digests.hash(values), x.digest());
        c.due("of six parts", Digests.of(Makers.full(), ""), Makers.full().digest());
        RareFaults none = Makers.full();
        none.limit(99);
        c.due("of parts without a fault", Digests.of(none, ""), none.digest());
    }

    private void digestOfWays() {
        String[] texts = {"000001", "000009;000009", "00001;000001", "000001;000001;01",
            Makers.MOST};
        for (String text : texts) {
            RareFaults x = Checks.plantOf(text);
            c.due("of " + text, Digests.of(x, ""), x.digest());
        }
    }

    private void digestOfDoubles() {
        RareFaults least = Checks.plantOf(Makers.MOST);
        least.limit(30);
        c.due("of the least odds", Digests.of(least, ""), least.digest());
        RareFaults tilted = Checks.plantOf("100009;100009;100009;100009;100009;100009");
        for (int part = 0; part < 6; part++) {
            tilted.tilt(part, 0, 99);
            tilted.tilt(part, 5, 1);
        }
        tilted.limit(30);
        c.due("of a great correction", Digests.of(tilted, ""), tilted.digest());
        for (int draws = 0; draws < 40; draws++) {
            tilted.draw(7);
            c.due("of small corrections", Digests.of(tilted, ""), tilted.digest());
        }
        RareFaults halves = Checks.plantOf("11;11");
        halves.limit(1);
        for (int draws = 1; draws <= 64; draws++) {
            halves.draw(1);
            c.due("of " + draws + " samples", Digests.of(halves, ""), halves.digest());
        }
    }

    private void digestOfLimitFor() {
        RareFaults just = Checks.plantOf("91");
        c.due("limitFor(99) of 1 / 10", 2, just.limitFor(99));
        c.due("limitFor(100) of 1 / 10", 1, just.limitFor(100));
        c.due("of 1 / 10", Digests.of(just, ""), just.digest());
        RareFaults above = Checks.plantOf("940004;400003");
        c.due("limitFor(100) of 12 / 119", 11, above.limitFor(100));
        c.due("limitFor(101) of 12 / 119", 7, above.limitFor(101));
        c.due("of 12 / 119", Digests.of(above, ""), above.digest());
    }

    private void digestOfBuffers() {
        RareFaults x = new RareFaults();
        StringBuilder typed = new StringBuilder();
        for (int length = 1; length <= 60; length++) {
            typed.append((char) (length == 60 ? 126 : 32 + length));
            x.append(typed.charAt(length - 1));
            c.due("of " + length + " characters", Digests.of(x, typed.toString()), x.digest());
        }
        x.clearBuffer();
        c.due("of none after 60", new RareFaults().digest(), x.digest());
        c.due("of !~, not ~!", false,
                Makers.typed("!~").digest() == Makers.typed("~!").digest());
    }

    private void digestTellsApart() {
        long busy = Makers.busy().digest();
        Checks.On[] changes = {x -> x.addPart(0), x -> x.removePart(0), x -> x.weigh(0, 0, 9),
            x -> x.tilt(0, 0, 8), x -> x.tiltAll(1), x -> x.limit(5), x -> x.seed(1),
            x -> x.draw(1), RareFaults::forget, x -> x.append('1'), RareFaults::clearBuffer,
            RareFaults::undo};
        for (int i = 0; i < changes.length; i++) {
            RareFaults x = Makers.busy();
            changes[i].answer(x);
            c.due("after change " + i + " it is another", false, x.digest() == busy);
        }
        c.due("after the same calls it is the same", busy, Makers.busy().digest());
    }
}
