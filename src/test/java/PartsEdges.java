/** Promises 1 to 7, sentence by sentence: a new object, and the calls that change parts. */
final class PartsEdges {
    private final Checks c;

    private PartsEdges(Checks checks) {
        c = checks;
    }

    static void hold(Checks checks, Sentences s) {
        PartsEdges t = new PartsEdges(checks);
        s.in("Promise 1: A new object");
        s.hold("Creates a plant without parts", t::newWithoutParts);
        s.hold("with an empty buffer", t::newWithEmptyBuffer);
        t.holdAddAndRemove(s);
        t.holdWeigh(s);
        t.holdTilt(s);
        t.holdTiltAll(s);
        t.holdLimit(s);
    }

    private void holdAddAndRemove(Sentences s) {
        s.in("Promise 2: addPart");
        s.hold("for each load from 0 to a greatest one", this::addPartWeights);
        s.hold("Undoable", this::addPartUndone);
        s.hold("`greatest`: 0 to 5", this::addPartRange);
        s.hold("Returns its number", this::addPartReturns);
        s.hold("Throws `IllegalArgumentException` if greatest is out of range",
                this::addPartOutOfRange);
        s.hold("Throws `IllegalStateException` if there are 6 parts", this::addPartToSix);
        s.in("Promise 3: removePart");
        s.hold("Removes a part. Undoable", this::removePartUndone);
        s.hold("`part`: its number", this::removePartRange);
        s.hold("Returns how many parts there are then", this::removePartReturns);
        s.hold("Throws `IndexOutOfBoundsException` if there is no such part",
                this::removePartNoSuch);
    }

    private void holdWeigh(Sentences s) {
        s.in("Promise 4: weigh");
        s.hold("If it was or becomes 0", this::weighWasOrBecomes0);
        s.hold("Undoable", this::weighUndone);
        s.hold("`part`: its number", this::weighParts);
        s.hold("`load`: 0 to 5", this::weighLoads);
        s.hold("`weight`: 0 to 9", this::weighRange);
        s.hold("Returns the previous weight", this::weighReturns);
        s.hold("Throws `IndexOutOfBoundsException` if there is no such part or load",
                this::weighNoSuch);
        s.hold("Throws `IllegalArgumentException` if weight is out of range",
                this::weighOutOfRange);
        s.hold("Throws `IllegalStateException` if all weights of the part would be 0",
                this::weighAll0);
    }

    private void holdTilt(Sentences s) {
        s.in("Promise 5: tilt");
        s.hold("Changes a tilted weight. Undoable", this::tiltUndone);
        s.hold("`part`: its number", this::tiltParts);
        s.hold("`load`: 0 to 5", this::tiltLoads);
        s.hold("`weight`: 1 to 99", this::tiltRange);
        s.hold("Returns the previous tilted weight", this::tiltReturns);
        s.hold("Throws `IndexOutOfBoundsException` if there is no such part or load",
                this::tiltNoSuch);
        s.hold("Throws `IllegalArgumentException` if weight is out of range", this::tiltOutOfRange);
        s.hold("Throws `IllegalStateException` if the weight of this load is 0", this::tiltOfNone);
    }

    private void holdTiltAll(Sentences s) {
        s.in("Promise 6: tiltAll");
        s.hold("which is 1 plus the load times by", this::tiltAllFactor);
        s.hold("at most 99", this::tiltAllAtMost99);
        s.hold("Undoable", this::tiltAllUndone);
        s.hold("`by`: 0 to 9", this::tiltAllRange);
        s.hold("Returns the sum of all tilted totals then", this::tiltAllReturns);
        s.hold("Throws `IllegalArgumentException` if by is out of range", this::tiltAllOutOfRange);
    }

    private void holdLimit(Sentences s) {
        s.in("Promise 7: limit");
        s.hold("Changes the limit. Undoable", this::limitUndone);
        s.hold("`limit`: 0 to 99", this::limitRange);
        s.hold("Returns the previous limit", this::limitReturns);
        s.hold("Throws `IllegalArgumentException` if limit is out of range", this::limitOutOfRange);
    }

    /** Checks that the undo of a call restores what a maker makes. */
    private void dueUndone(String what, Checks.On call) {
        RareFaults x = Makers.busy();
        c.accepted(what, () -> call.answer(x));
        x.undo();
        RareFaults want = Makers.busy();
        c.due("undo of " + what, 5, x.count(8));
        for (int number = 0; number < 8; number++) {
            c.due("undo of " + what + ", count(" + number + ")", want.count(number),
                    x.count(number));
        }
        want.limit(4);
        want.undo();
        c.alike("undo of " + what, want, x);
    }

    // ---- promise 1

    private void newWithoutParts() {
        RareFaults used = Makers.busy();
        RareFaults x = new RareFaults();
        int[] counts = {0, 10, 1, 0, 0, 0, 0, 0, 0};
        for (int what = 0; what < counts.length; what++) {
            c.due("count(" + what + ")", counts[what], x.count(what));
        }
        c.due("part 0", "IndexOutOfBoundsException", Checks.outcome(() -> x.part(0, 0)));
        c.due("undo", "IllegalStateException", Checks.outcome(x::undo));
        x.addPart(5);
        c.alike("another object", Makers.busy(), used);
    }

    private void newWithEmptyBuffer() {
        Makers.typed("12");
        RareFaults x = new RareFaults();
        c.due("firstError", 0, x.firstError());
        c.due("clearBuffer", 0, x.clearBuffer());
        c.due("addAll", "IllegalArgumentException", Checks.outcome(x::addAll));
        c.due("append", 1, x.append('1'));
    }

    // ---- promise 2

    private void addPartWeights() {
        for (int greatest = 0; greatest <= 5; greatest++) {
            RareFaults x = Checks.plantOf(Makers.MOST);
            x.tiltAll(9);
            x.removePart(greatest);
            x.addPart(greatest);
            for (int load = 0; load <= 5; load++) {
                int want = load <= greatest ? 1 : 0;
                c.due("weight of load " + load, want, x.weight(5, load, false));
                c.due("tilted weight of load " + load, want, x.weight(5, load, true));
                c.due("weight of the part before", 9, x.weight(4, load, false));
            }
        }
    }

    private void addPartUndone() {
        dueUndone("addPart", x -> x.addPart(5));
        RareFaults x = Checks.plantOf("1;2;3;4;5");
        x.addPart(3);
        x.undo();
        c.due("addPart after its undo", 5, x.addPart(0));
    }

    private void addPartRange() {
        RareFaults x = new RareFaults();
        x.addPart(0);
        c.due("addPart(0), the greatest load", 0, x.part(0, 3));
        x.addPart(5);
        c.due("addPart(5), the greatest load", 5, x.part(1, 3));
        c.due("addPart(5), the total", 6, x.part(1, 0));
    }

    private void addPartReturns() {
        RareFaults x = new RareFaults();
        for (int part = 0; part < 6; part++) {
            c.due("addPart", part, x.addPart(part));
        }
        x.removePart(0);
        c.due("addPart after removePart", 5, x.addPart(0));
    }

    private void addPartOutOfRange() {
        c.range("addPart", 0, 5, Makers.NO_ARGUMENT, Makers::busy, RareFaults::addPart);
    }

    private void addPartToSix() {
        for (int greatest = 0; greatest <= 5; greatest++) {
            int taken = greatest;
            c.refused("addPart to six", Makers::full, Makers.NO_STATE, x -> x.addPart(taken));
        }
        c.due("addPart to five", 5, Checks.plantOf("1;2;3;4;5").addPart(0));
    }

    // ---- promise 3

    private void removePartUndone() {
        dueUndone("removePart(0)", x -> x.removePart(0));
        dueUndone("removePart(2)", x -> x.removePart(2));
        RareFaults x = Makers.full();
        x.removePart(0);
        x.undo();
        c.due("parts", 6, x.count(0));
        c.due("a weight of the last part", 8, x.weight(5, 1, false));
    }

    private void removePartRange() {
        c.range("removePart", 0, 2, Makers.NO_INDEX, Makers::busy, RareFaults::removePart);
        c.range("removePart of six", 0, 5, Makers.NO_INDEX, Makers::full, RareFaults::removePart);
    }

    private void removePartReturns() {
        RareFaults x = Makers.full();
        for (int left = 5; left >= 0; left--) {
            c.due("removePart", left, x.removePart(left / 2));
            c.due("parts", left, x.count(0));
        }
        c.due("all ways without parts", 1, x.ways(0, true));
    }

    private void removePartNoSuch() {
        c.refused("removePart without parts", RareFaults::new, Makers.NO_INDEX,
                x -> x.removePart(0));
        c.refused("removePart of one", Makers::sixLoads, Makers.NO_INDEX, x -> x.removePart(1));
        c.refused("removePart of a removed one", PartsEdges::afterRemoval, Makers.NO_INDEX,
                x -> x.removePart(5));
    }

    private static RareFaults afterRemoval() {
        RareFaults x = Makers.full();
        x.removePart(5);
        return x;
    }

    // ---- promise 4

    private void weighWasOrBecomes0() {
        RareFaults x = Checks.plantOf("10203");
        x.tilt(0, 2, 50);
        x.weigh(0, 2, 9);
        c.due("neither was nor becomes 0", 50, x.weight(0, 2, true));
        x.weigh(0, 2, 1);
        c.due("becomes 1", 50, x.weight(0, 2, true));
        x.weigh(0, 2, 0);
        c.due("becomes 0", 0, x.weight(0, 2, true));
        x.weigh(0, 2, 0);
        c.due("was and becomes 0", 0, x.weight(0, 2, true));
        x.weigh(0, 2, 1);
        c.due("was 0, becomes 1", 1, x.weight(0, 2, true));
        x.weigh(0, 5, 9);
        c.due("was 0, becomes 9", 9, x.weight(0, 5, true));
        c.due("other loads", 1 + 0 + 1 + 0 + 3 + 9, x.part(0, 1));
    }

    private void weighUndone() {
        dueUndone("weigh to 0", x -> x.weigh(0, 0, 0));
        dueUndone("weigh from 0", x -> x.weigh(1, 5, 9));
        dueUndone("weigh", x -> x.weigh(1, 2, 1));
    }

    private void weighParts() {
        c.range("weigh, part", 0, 2, Makers.NO_INDEX, Makers::busy,
                (x, part) -> x.weigh(part, 1, 1));
        RareFaults x = Makers.full();
        x.weigh(5, 0, 1);
        c.due("weight of the last part", 1, x.weight(5, 0, false));
        c.due("weight of the part before", 0, x.weight(4, 0, false));
    }

    private void weighLoads() {
        c.range("weigh, load", 0, 5, Makers.NO_INDEX, Makers::busy,
                (x, load) -> x.weigh(0, load, 1));
        RareFaults x = Checks.plantOf("1;1");
        x.weigh(0, 5, 7);
        c.due("weight of the load 5", 7, x.weight(0, 5, false));
        c.due("weight of the next part's load 0", 1, x.weight(1, 0, false));
    }

    private void weighRange() {
        RareFaults x = Makers.sixLoads();
        x.weigh(0, 0, 9);
        c.due("the weight 9", 9, x.weight(0, 0, false));
        x.weigh(0, 0, 0);
        c.due("the weight 0", 0, x.weight(0, 0, false));
        c.due("the total", 5, x.part(0, 0));
    }

    private void weighReturns() {
        RareFaults x = Checks.plantOf("09");
        x.tilt(0, 1, 70);
        c.due("of 0", 0, x.weigh(0, 0, 4));
        c.due("of 9, not the tilted one", 9, x.weigh(0, 1, 9));
        c.due("of the same", 9, x.weigh(0, 1, 0));
        c.due("of what became 0", 0, x.weigh(0, 1, 2));
    }

    private void weighNoSuch() {
        c.refused("weigh without parts", RareFaults::new, Makers.NO_INDEX, x -> x.weigh(0, 0, 1));
        c.refused("weigh part 3", Makers::busy, Makers.NO_INDEX, x -> x.weigh(3, 0, 1));
        c.refused("weigh part -1", Makers::busy, Makers.NO_INDEX, x -> x.weigh(-1, 5, 1));
        c.refused("weigh load 6", Makers::busy, Makers.NO_INDEX, x -> x.weigh(0, 6, 1));
        c.refused("weigh load -1", Makers::busy, Makers.NO_INDEX, x -> x.weigh(2, -1, 1));
    }

    private void weighOutOfRange() {
        c.range("weigh, weight", 0, 9, Makers.NO_ARGUMENT, Makers::busy,
                (x, weight) -> x.weigh(0, 1, weight));
        c.range("weigh, weight of 0", 0, 9, Makers.NO_ARGUMENT, Makers::busy,
                (x, weight) -> x.weigh(0, 5, weight));
    }

    private void weighAll0() {
        c.refused("weigh the only load", Makers::oneLoad, Makers.NO_STATE, x -> x.weigh(1, 2, 0));
        c.due("weigh another load of it", 0, Makers.oneLoad().weigh(1, 1, 0));
        RareFaults x = Makers.oneLoad();
        c.due("weigh the one of two loads", 1, x.weigh(0, 0, 0));
        c.due("weigh the other of two loads", "IllegalStateException",
                Checks.outcome(() -> x.weigh(0, 1, 0)));
        c.due("the only load stays", 1, x.weight(0, 1, false));
        c.due("weigh the only load to what it is", 1, x.weigh(0, 1, 1));
    }

    // ---- promise 5

    private void tiltUndone() {
        dueUndone("tilt", x -> x.tilt(1, 2, 99));
        RareFaults x = Makers.sixLoads();
        x.tilt(0, 3, 8);
        c.due("the tilted weight", 8, x.weight(0, 3, true));
        c.due("the weight", 1, x.weight(0, 3, false));
        c.due("the tilted total", 13, x.part(0, 1));
    }

    private void tiltParts() {
        RareFaults x = Checks.plantOf("1;1;1;1;1;1");
        x.tilt(0, 0, 5);
        x.tilt(5, 0, 6);
        c.due("the tilted weight of the first part", 5, x.weight(0, 0, true));
        c.due("the tilted weight of the last part", 6, x.weight(5, 0, true));
        c.range("tilt, part", 0, 5, Makers.NO_INDEX, () -> Checks.plantOf("1;1;1;1;1;1"),
                (y, part) -> y.tilt(part, 0, 1));
    }

    private void tiltLoads() {
        RareFaults x = Makers.sixLoads();
        x.tilt(0, 0, 5);
        x.tilt(0, 5, 6);
        c.due("the tilted weight of the load 0", 5, x.weight(0, 0, true));
        c.due("the tilted weight of the load 5", 6, x.weight(0, 5, true));
        c.range("tilt, load", 0, 5, Makers.NO_INDEX, Makers::sixLoads,
                (y, load) -> y.tilt(0, load, 1));
    }

    private void tiltRange() {
        RareFaults x = Makers.sixLoads();
        x.tilt(0, 2, 99);
        c.due("the tilted weight 99", 99, x.weight(0, 2, true));
        x.tilt(0, 2, 1);
        c.due("the tilted weight 1", 1, x.weight(0, 2, true));
    }

    private void tiltReturns() {
        RareFaults x = Checks.plantOf("7");
        c.due("of a new part", 7, x.tilt(0, 0, 99));
        c.due("of 99", 99, x.tilt(0, 0, 99));
        c.due("of the same", 99, x.tilt(0, 0, 1));
        c.due("of 1", 1, x.tilt(0, 0, 2));
    }

    private void tiltNoSuch() {
        c.refused("tilt without parts", RareFaults::new, Makers.NO_INDEX, x -> x.tilt(0, 0, 1));
        c.refused("tilt part 3", Makers::busy, Makers.NO_INDEX, x -> x.tilt(3, 0, 1));
        c.refused("tilt part -1", Makers::busy, Makers.NO_INDEX, x -> x.tilt(-1, 5, 1));
        c.refused("tilt load 6", Makers::busy, Makers.NO_INDEX, x -> x.tilt(0, 6, 1));
        c.refused("tilt load -1", Makers::busy, Makers.NO_INDEX, x -> x.tilt(2, -1, 1));
    }

    private void tiltOutOfRange() {
        c.range("tilt, weight", 1, 99, Makers.NO_ARGUMENT, Makers::busy,
                (x, weight) -> x.tilt(0, 1, weight));
    }

    private void tiltOfNone() {
        for (int weight : new int[] {1, 99}) {
            c.refused("tilt of a load that is not told", Makers::busy, Makers.NO_STATE,
                    x -> x.tilt(0, 2, weight));
            c.refused("tilt of a load between", Makers::busy, Makers.NO_STATE,
                    x -> x.tilt(1, 1, weight));
        }
        RareFaults x = Makers.sixLoads();
        x.weigh(0, 0, 0);
        c.due("tilt of what became 0", "IllegalStateException",
                Checks.outcome(() -> x.tilt(0, 0, 5)));
        x.weigh(0, 0, 2);
        c.due("tilt of what was 0", 2, x.tilt(0, 0, 5));
    }

    // ---- promise 6

    private void tiltAllFactor() {
        for (int by = 0; by <= 9; by++) {
            RareFaults x = Checks.plantOf("111111;020001");
            x.tilt(0, 0, 44);
            x.tilt(1, 1, 44);
            x.tiltAll(by);
            for (int load = 0; load <= 5; load++) {
                c.due("weight 1 of load " + load + " by " + by, 1 + load * by,
                        x.weight(0, load, true));
            }
            c.due("weight 2 of load 1 by " + by, 2 + 2 * by, x.weight(1, 1, true));
            c.due("weight 0 by " + by, 0, x.weight(1, 2, true));
            c.due("the weight stays", 2, x.weight(1, 1, false));
        }
    }

    private void tiltAllAtMost99() {
        // the weight, its load, by, and what the tilted weight is to be
        int[][] cases = {{9, 5, 2, 99}, {3, 4, 8, 99}, {4, 4, 6, 99}, {9, 5, 9, 99}, {6, 5, 3, 96},
            {5, 3, 6, 95}, {2, 5, 9, 92}, {9, 1, 9, 90}, {9, 3, 3, 90}, {7, 2, 7, 99}};
        for (int[] one : cases) {
            RareFaults x = Makers.sixLoads();
            x.weigh(0, one[1], one[0]);
            x.tiltAll(one[2]);
            c.due(one[0] + " at load " + one[1] + " by " + one[2], one[3],
                    x.weight(0, one[1], true));
            c.due("the load 0", 1, x.weight(0, 0, true));
        }
    }

    private void tiltAllUndone() {
        dueUndone("tiltAll(9)", x -> x.tiltAll(9));
        dueUndone("tiltAll(0)", x -> x.tiltAll(0));
    }

    private void tiltAllRange() {
        RareFaults x = Checks.plantOf("0101");
        c.due("tiltAll(0)", 2, x.tiltAll(0));
        c.due("tiltAll(9)", 10 + 28, x.tiltAll(9));
    }

    private void tiltAllReturns() {
        c.due("without parts", 0, new RareFaults().tiltAll(9));
        RareFaults most = Checks.plantOf(Makers.MOST);
        c.due("of the greatest weights", 6 * (9 + 90 + 4 * 99), most.tiltAll(9));
        c.due("by 0", 6 * 54, most.tiltAll(0));
        most.removePart(5);
        c.due("of five", 5 * 54, most.tiltAll(0));
    }

    private void tiltAllOutOfRange() {
        c.range("tiltAll", 0, 9, Makers.NO_ARGUMENT, Makers::busy, RareFaults::tiltAll);
        c.range("tiltAll without parts", 0, 9, Makers.NO_ARGUMENT, RareFaults::new,
                RareFaults::tiltAll);
    }

    // ---- promise 7

    private void limitUndone() {
        dueUndone("limit(99)", x -> x.limit(99));
        dueUndone("limit(4), as it is", x -> x.limit(4));
    }

    private void limitRange() {
        RareFaults x = Checks.plantOf("12");
        x.limit(99);
        c.due("count(1) at 99", 99, x.count(1));
        x.limit(0);
        c.due("count(1) at 0", 0, x.count(1));
    }

    private void limitReturns() {
        RareFaults x = new RareFaults();
        c.due("the first one", 10, x.limit(99));
        c.due("of 99", 99, x.limit(0));
        c.due("of 0", 0, x.limit(0));
        c.due("of the same", 0, x.limit(1));
    }

    private void limitOutOfRange() {
        c.range("limit", 0, 99, Makers.NO_ARGUMENT, Makers::busy, RareFaults::limit);
        c.range("limit without parts", 0, 99, Makers.NO_ARGUMENT, RareFaults::new,
                RareFaults::limit);
    }
}
