/** Promises 8 to 10, sentence by sentence: the seed, drawing and forgetting. */
final class SamplesEdges {
    private static final int MOST_SEED = Integer.MAX_VALUE;

    private final Checks c;

    private SamplesEdges(Checks checks) {
        c = checks;
    }

    static void hold(Checks checks, Sentences s) {
        SamplesEdges t = new SamplesEdges(checks);
        s.in("Promise 8: seed");
        s.hold("samples stay", t::seedLeavesSamples);
        s.hold("Undoable", t::seedUndone);
        s.hold("`seed`: 0 or more", t::seedRange);
        s.hold("Returns the previous seed", t::seedReturns);
        s.hold("Throws `IllegalArgumentException` if seed is below 0", t::seedBelow0);
        s.in("Promise 9: draw");
        s.hold("Undoable, as one call", t::drawUndoneAtOnce);
        s.hold("`many`: 1 to 64", t::drawRange);
        s.hold("Returns how many of them are faults", t::drawReturns);
        s.hold("Throws `IllegalArgumentException` if many is out of range", t::drawOutOfRange);
        s.hold("Throws `IllegalStateException` if there would be more than 9999 samples",
                t::drawTo9999);
        s.in("Promise 10: forget");
        s.hold("Forgets all samples", t::forgetsAll);
        s.hold("Undoable", t::forgetUndone);
        s.hold("Returns how many there were", t::forgetReturns);
    }

    // ---- promise 8

    private void seedLeavesSamples() {
        RareFaults x = Makers.busy();
        double[] before = Makers.measures(x);
        int load = x.part(1, 6);
        x.seed(0);
        x.seed(x.count(2));
        c.due("samples", 25, x.count(3));
        c.due("the latest row", load, x.part(1, 6));
        c.dueMeasures("all measures", before, x);
        x.draw(1);
        c.due("samples after another draw", 26, x.count(3));
    }

    private void seedUndone() {
        RareFaults x = Checks.plantOf("11");
        x.draw(4);
        int seed = x.count(2);
        x.seed(MOST_SEED);
        x.seed(MOST_SEED);
        c.due("seed saves, also the same", 4, x.count(8));
        x.undo();
        c.due("undo of seed to the same", MOST_SEED, x.count(2));
        x.undo();
        c.due("undo of seed", seed, x.count(2));
        c.due("samples", 4, x.count(3));
    }

    private void seedRange() {
        RareFaults x = Checks.plantOf("11");
        x.seed(0);
        c.due("the seed 0", 0, x.count(2));
        c.due("draw by it", 0, x.draw(1));
        c.due("the seed after 0", 12345, x.count(2));
        x.seed(MOST_SEED);
        c.due("the greatest seed", MOST_SEED, x.count(2));
        c.due("draw by the greatest", 0, x.draw(1));
        c.due("the seed after the greatest", 1043980748, x.count(2));
    }

    private void seedReturns() {
        RareFaults x = new RareFaults();
        c.due("the first one", 1, x.seed(MOST_SEED));
        c.due("of the greatest", MOST_SEED, x.seed(0));
        c.due("of 0", 0, x.seed(0));
        x.addPart(0);
        x.draw(1);
        c.due("of one that was drawn by", 12345, x.seed(7));
    }

    private void seedBelow0() {
        c.range("seed", 0, MOST_SEED, Makers.NO_ARGUMENT, Makers::busy, RareFaults::seed);
    }

    // ---- promise 9

    private void drawUndoneAtOnce() {
        for (int many : new int[] {1, 64}) {
            RareFaults x = Checks.plantOf("12;305");
            x.limit(2);
            x.draw(3);
            int seed = x.count(2);
            int faults = x.count(4);
            x.draw(many);
            c.due("draw(" + many + ") saves one state", 4, x.count(8));
            c.due("undo of draw(" + many + ")", 3, x.undo());
            c.due("samples", 3, x.count(3));
            c.due("faults", faults, x.count(4));
            c.due("the seed", seed, x.count(2));
        }
    }

    private void drawRange() {
        RareFaults x = Checks.plantOf("11");
        x.draw(1);
        c.due("samples of draw(1)", 1, x.count(3));
        x.draw(64);
        c.due("samples of draw(64)", 65, x.count(3));
        long seed = 1;
        for (int row = 0; row < 65; row++) {
            seed = Makers.seedAfter(seed);
        }
        c.due("the seed after 65 loads", seed, x.count(2));
    }

    private void drawReturns() {
        RareFaults x = Checks.plantOf("01;11");
        x.limit(1);
        c.due("all of 64", 64, x.draw(64));
        c.due("all of 1, not those before", 1, x.draw(1));
        c.due("all of 65", 65, x.count(4));
        x.limit(3);
        c.due("none of 64", 0, x.draw(64));
        x.limit(2);
        int faults = 0;
        for (int row = 0; row < 40; row++) {
            int fault = x.draw(1);
            c.due("one of 1", x.part(1, 6), fault);
            faults += fault;
        }
        c.due("some of 40", true, faults > 0 && faults < 40);
        c.due("faults that are kept", faults, x.count(4));
    }

    private void drawOutOfRange() {
        c.range("draw", 1, 64, Makers.NO_ARGUMENT, Makers::busy, RareFaults::draw);
        c.range("draw without parts", 1, 64, Makers.NO_ARGUMENT, RareFaults::new, RareFaults::draw);
    }

    private void drawTo9999() {
        c.refused("draw(1) at 9999", Makers::mostSamples, Makers.NO_STATE, x -> x.draw(1));
        c.refused("draw(64) at 9999", Makers::mostSamples, Makers.NO_STATE, x -> x.draw(64));
        RareFaults x = Makers.samplesLess(64);
        c.due("draw(64) to 9999", 0, x.draw(64));
        c.due("samples", 9999, x.count(3));
        c.due("the mean of 9999", 1.0, x.measure(3));
        c.refused("draw(64) to 10000", () -> Makers.samplesLess(63), Makers.NO_STATE,
                y -> y.draw(64));
        RareFaults last = Makers.samplesLess(1);
        c.due("draw(2) to 10000", "IllegalStateException", Checks.outcome(() -> last.draw(2)));
        c.due("draw(1) to 9999", 0, last.draw(1));
        last.undo();
        c.due("draw(1) to 9999 after undo", 0, last.draw(1));
        last.forget();
        c.due("draw(64) after forget", 0, last.draw(64));
        RareFaults changed = Makers.mostSamples();
        changed.limit(3);
        c.due("draw(64) after a change", 0, changed.draw(64));
    }

    // ---- promise 10

    private void forgetsAll() {
        RareFaults x = Makers.busy();
        int seed = x.count(2);
        x.forget();
        c.due("samples", 0, x.count(3));
        c.due("faults", 0, x.count(4));
        for (int what = 1; what <= 5; what++) {
            c.due("measure(" + what + ")", 0.0, x.measure(what));
        }
        c.due("the estimate less the odds", 0.0 - x.measure(0), x.measure(6));
        c.due("the latest row", -1, x.part(2, 6));
        c.due("the seed stays", seed, x.count(2));
        c.due("parts stay", 3, x.count(0));
    }

    private void forgetUndone() {
        RareFaults x = Checks.plantOf("12;305");
        x.draw(7);
        double[] before = Makers.measures(x);
        int load = x.part(1, 6);
        x.forget();
        x.forget();
        c.due("forget saves, also without samples", 4, x.count(8));
        x.undo();
        c.due("undo of forget without samples", 0, x.count(3));
        x.undo();
        c.due("undo of forget", 7, x.count(3));
        c.due("the latest row", load, x.part(1, 6));
        c.dueMeasures("all measures", before, x);
    }

    private void forgetReturns() {
        RareFaults x = new RareFaults();
        c.due("of a new object", 0, x.forget());
        x.draw(64);
        c.due("of 64", 64, x.forget());
        c.due("of those that were forgotten", 0, x.forget());
        c.due("of 9999", 9999, Makers.mostSamples().forget());
    }
}
