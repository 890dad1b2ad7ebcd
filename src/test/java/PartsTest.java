/** Promises 1 to 7: a new object, and the calls that change parts, tilts and the limit. */
public final class PartsTest {
    private static final Checks C = new Checks();
    private static final Class<IndexOutOfBoundsException> NO_INDEX = IndexOutOfBoundsException.class;
    private static final Class<IllegalArgumentException> NO_ARGUMENT = IllegalArgumentException.class;
    private static final Class<IllegalStateException> NO_STATE = IllegalStateException.class;

    public static void main(String[] args) {
        promise1New();
        promise2AddPart();
        promise3RemovePart();
        promise4Weigh();
        promise4WeighWrong();
        promise5Tilt();
        promise5TiltWrong();
        promise6TiltAll();
        promise7Limit();
        changesForgetSamples();
        C.end();
    }

    private static void promise1New() {
        RareFaults x = new RareFaults();
        int[] counts = {0, 10, 1, 0, 0, 0, 0, 0, 0};
        for (int what = 0; what < counts.length; what++) {
            C.due("new: count(" + what + ")", counts[what], x.count(what));
        }
        for (int what = 0; what <= 6; what++) {
            C.due("new: measure(" + what + ")", 0.0, x.measure(what));
        }
        C.due("new: NONE", -1, RareFaults.NONE);
        C.due("new: ways(0, false)", 1, x.ways(0, false));
        C.due("new: firstError", 0, x.firstError());
        C.due("new: clearBuffer", 0, x.clearBuffer());
        C.due("new: limitFor(0)", 1, x.limitFor(0));
        C.due("new: limitFor(1000)", 0, x.limitFor(1000));
    }

    private static void promise2AddPart() {
        RareFaults x = new RareFaults();
        for (int greatest = 0; greatest <= 5; greatest++) {
            C.due("addPart(" + greatest + ")", greatest, x.addPart(greatest));
            for (int load = 0; load <= 5; load++) {
                int want = load <= greatest ? 1 : 0;
                C.due("weight of new part", want, x.weight(greatest, load, false));
                C.due("tilted weight of new part", want, x.weight(greatest, load, true));
            }
            C.due("addPart is undoable", greatest + 1, x.count(8));
        }
        C.dueThrow("addPart(0), full", x, NO_STATE, () -> x.addPart(0));
        C.dueThrow("addPart(6), full", x, NO_ARGUMENT, () -> x.addPart(6));
        C.dueThrow("addPart(-1), full", x, NO_ARGUMENT, () -> x.addPart(-1));
        C.dueThrow("addPart(max)", x, NO_ARGUMENT, () -> x.addPart(Integer.MAX_VALUE));
        C.dueThrow("addPart(min)", x, NO_ARGUMENT, () -> x.addPart(Integer.MIN_VALUE));
        x.undo();
        C.due("parts after undo", 5, x.count(0));
        C.due("addPart after undo", 5, x.addPart(0));
        C.due("the part of before undo is gone", 0, x.weight(5, 1, false));
    }

    private static void promise3RemovePart() {
        RareFaults x = Checks.plantOf("12;034;5;006789");
        x.tilt(2, 0, 77);
        C.due("removePart(1)", 3, x.removePart(1));
        C.due("part 0 stays", 2, x.weight(0, 1, false));
        C.due("part 2 moves up", 5, x.weight(1, 0, false));
        C.due("tilted weights move up", 77, x.weight(1, 0, true));
        C.due("part 3 moves up", 9, x.weight(2, 5, false));
        C.due("removePart is undoable", 3, x.count(8));
        C.dueThrow("removePart(3)", x, NO_INDEX, () -> x.removePart(3));
        C.dueThrow("removePart(-1)", x, NO_INDEX, () -> x.removePart(-1));
        C.dueThrow("removePart(max)", x, NO_INDEX, () -> x.removePart(Integer.MAX_VALUE));
        C.due("removePart(2), the last", 2, x.removePart(2));
        C.due("addPart after removePart", 2, x.addPart(0));
        C.due("nothing of the removed part stays", 0, x.weight(2, 5, false));
        C.due("nor of its tilted weights", 0, x.weight(2, 5, true));
        x.undo();
        C.due("removePart(0)", 1, x.removePart(0));
        C.due("removePart(0) again", 0, x.removePart(0));
        C.dueThrow("removePart(0) without parts", x, NO_INDEX, () -> x.removePart(0));
        for (int i = 0; i < 4; i++) {
            x.undo();
        }
        C.due("undo of removePart", 4, x.count(0));
        C.due("undo of removePart, weight", 3, x.weight(1, 1, false));
    }

    private static void promise4Weigh() {
        RareFaults x = Checks.plantOf("1203");
        x.tilt(0, 1, 50);
        C.due("weigh(0, 1, 9)", 2, x.weigh(0, 1, 9));
        C.due("the weight", 9, x.weight(0, 1, false));
        C.due("the tilted weight stays", 50, x.weight(0, 1, true));
        C.due("weigh(0, 2, 7) from 0", 0, x.weigh(0, 2, 7));
        C.due("the tilted weight becomes it", 7, x.weight(0, 2, true));
        C.due("weigh(0, 1, 0)", 9, x.weigh(0, 1, 0));
        C.due("the tilted weight becomes 0", 0, x.weight(0, 1, true));
        C.due("weigh(0, 1, 0) again", 0, x.weigh(0, 1, 0));
        C.due("weigh(0, 5, 1)", 0, x.weigh(0, 5, 1));
        C.due("other weights stay", 1, x.weight(0, 0, false));
        C.due("weigh saves, also if nothing changes", 6, x.count(8));
        x.undo();
        C.due("undo of weigh", 0, x.weight(0, 5, true));
        x.undo();
        x.undo();
        C.due("undo of weigh, tilted", 50, x.weight(0, 1, true));
    }

    private static void promise4WeighWrong() {
        RareFaults x = Checks.plantOf("01;11");
        C.dueThrow("weigh all 0", x, NO_STATE, () -> x.weigh(0, 1, 0));
        C.due("weigh(0, 0, 0) of 0", 0, x.weigh(0, 0, 0));
        C.due("weigh(1, 0, 0)", 1, x.weigh(1, 0, 0));
        C.dueThrow("weigh all 0, the second", x, NO_STATE, () -> x.weigh(1, 1, 0));
        C.dueThrow("weigh weight 10", x, NO_ARGUMENT, () -> x.weigh(0, 0, 10));
        C.dueThrow("weigh weight -1", x, NO_ARGUMENT, () -> x.weigh(0, 1, -1));
        C.dueThrow("weigh weight min", x, NO_ARGUMENT, () -> x.weigh(0, 1, Integer.MIN_VALUE));
        C.dueThrow("weigh part 2", x, NO_INDEX, () -> x.weigh(2, 0, 1));
        C.dueThrow("weigh part -1", x, NO_INDEX, () -> x.weigh(-1, 0, 1));
        C.dueThrow("weigh load 6", x, NO_INDEX, () -> x.weigh(0, 6, 1));
        C.dueThrow("weigh load -1", x, NO_INDEX, () -> x.weigh(1, -1, 1));
        C.dueThrow("weigh part 2, weight 10", x, NO_INDEX, () -> x.weigh(2, 0, 10));
        C.dueThrow("weigh load 6, weight -1", x, NO_INDEX, () -> x.weigh(0, 6, -1));
    }

    private static void promise5Tilt() {
        RareFaults x = Checks.plantOf("102");
        C.due("tilt(0, 0, 99)", 1, x.tilt(0, 0, 99));
        C.due("the tilted weight", 99, x.weight(0, 0, true));
        C.due("the weight stays", 1, x.weight(0, 0, false));
        C.due("tilt(0, 0, 1)", 99, x.tilt(0, 0, 1));
        C.due("tilt(0, 2, 2) to what it is", 2, x.tilt(0, 2, 2));
        C.due("tilt saves, also if nothing changes", 4, x.count(8));
        x.undo();
        x.undo();
        C.due("undo of tilt", 99, x.weight(0, 0, true));
    }

    private static void promise5TiltWrong() {
        RareFaults x = Checks.plantOf("102");
        C.dueThrow("tilt of weight 0", x, NO_STATE, () -> x.tilt(0, 1, 1));
        C.dueThrow("tilt of weight 0 at 5", x, NO_STATE, () -> x.tilt(0, 5, 99));
        C.dueThrow("tilt to 0", x, NO_ARGUMENT, () -> x.tilt(0, 0, 0));
        C.dueThrow("tilt to 100", x, NO_ARGUMENT, () -> x.tilt(0, 0, 100));
        C.dueThrow("tilt to 0 of weight 0", x, NO_ARGUMENT, () -> x.tilt(0, 1, 0));
        C.dueThrow("tilt part 1", x, NO_INDEX, () -> x.tilt(1, 0, 1));
        C.dueThrow("tilt part -1", x, NO_INDEX, () -> x.tilt(-1, 0, 1));
        C.dueThrow("tilt load 6", x, NO_INDEX, () -> x.tilt(0, 6, 1));
        C.dueThrow("tilt load -1", x, NO_INDEX, () -> x.tilt(0, -1, 1));
        C.dueThrow("tilt part 1 to 100", x, NO_INDEX, () -> x.tilt(1, 0, 100));
        C.dueThrow("tilt load 6 to 0", x, NO_INDEX, () -> x.tilt(0, 6, 0));
    }

    private static void promise6TiltAll() {
        RareFaults x = Checks.plantOf("123;000409");
        C.due("tiltAll(2)", 1 + 6 + 15 + 28 + 99, x.tiltAll(2));
        int[] first = {1, 6, 15, 0, 0, 0};
        int[] second = {0, 0, 0, 28, 0, 99};
        for (int load = 0; load <= 5; load++) {
            C.due("tilted by 2", first[load], x.weight(0, load, true));
            C.due("tilted by 2", second[load], x.weight(1, load, true));
        }
        C.due("tiltAll(9)", 1 + 20 + 57 + 99 + 99, x.tiltAll(9));
        C.due("tiltAll(0)", 19, x.tiltAll(0));
        C.due("the weights stay", 9, x.weight(1, 5, false));
        C.due("tiltAll is undoable", 4, x.count(8));
        x.undo();
        C.due("undo of tiltAll", 57, x.weight(0, 2, true));
        C.dueThrow("tiltAll(-1)", x, NO_ARGUMENT, () -> x.tiltAll(-1));
        C.dueThrow("tiltAll(10)", x, NO_ARGUMENT, () -> x.tiltAll(10));
        C.dueThrow("tiltAll(max)", x, NO_ARGUMENT, () -> x.tiltAll(Integer.MAX_VALUE));
        x.tilt(0, 0, 50);
        x.tilt(1, 3, 50);
        C.due("tiltAll(1) makes anew what was tilted", 1 + 4 + 9 + 16 + 54, x.tiltAll(1));
        C.due("the load 0 is made anew, too", 1, x.weight(0, 0, true));
        RareFaults edge = Checks.plantOf("090009");
        C.due("tiltAll(2) at 99", 27 + 99, edge.tiltAll(2));
        RareFaults empty = new RareFaults();
        C.due("tiltAll(3) without parts", 0, empty.tiltAll(3));
        C.due("tiltAll without parts saves", 1, empty.count(8));
    }

    private static void promise7Limit() {
        RareFaults x = Checks.plantOf("111");
        C.due("limit(0)", 10, x.limit(0));
        C.due("limit(99)", 0, x.limit(99));
        C.due("limit(99) again", 99, x.limit(99));
        C.due("count(1)", 99, x.count(1));
        C.due("limit is undoable", 4, x.count(8));
        C.dueThrow("limit(-1)", x, NO_ARGUMENT, () -> x.limit(-1));
        C.dueThrow("limit(100)", x, NO_ARGUMENT, () -> x.limit(100));
        C.dueThrow("limit(min)", x, NO_ARGUMENT, () -> x.limit(Integer.MIN_VALUE));
        x.undo();
        x.undo();
        C.due("undo of limit", 0, x.count(1));
    }

    private static void changesForgetSamples() {
        RareFaults x = Checks.plantOf("111;111");
        x.limit(2);
        forgotten("limit", x, () -> x.limit(2));
        forgotten("weigh", x, () -> x.weigh(0, 0, 1));
        forgotten("tilt", x, () -> x.tilt(0, 0, 1));
        forgotten("tiltAll", x, () -> x.tiltAll(0));
        forgotten("addPart", x, () -> x.addPart(0));
        forgotten("removePart", x, () -> x.removePart(2));
        forgotten("addAll", x, () -> typedAndAdded(x));
        RareFaults empty = new RareFaults();
        forgotten("tiltAll without parts", empty, () -> empty.tiltAll(0));
    }

    private static int typedAndAdded(RareFaults x) {
        Checks.type(x, "1");
        return x.addAll();
    }

    /** A change forgets all samples, but not the seed; undo brings them back. */
    private static void forgotten(String what, RareFaults x, Checks.Call change) {
        x.draw(5);
        double[] before = Makers.measures(x);
        int seed = x.count(2);
        change.answer();
        C.due(what + " forgets samples", 0, x.count(3));
        C.due(what + " forgets faults", 0, x.count(4));
        C.due(what + " forgets corrections", 0.0, x.measure(3));
        C.due(what + " forgets squares", 0.0, x.measure(4));
        C.due(what + " forgets the latest correction", 0.0, x.measure(5));
        C.due(what + " keeps the seed", seed, x.count(2));
        if (x.count(0) > 0) {
            C.due(what + " forgets the latest row", -1, x.part(0, 6));
        }
        x.undo();
        C.due("undo of " + what + " brings samples back", 5, x.count(3));
        C.dueMeasures("undo of " + what, before, x);
        change.answer();
    }
}
