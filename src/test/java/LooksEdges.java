/** Promises 16 to 21, sentence by sentence: the looks, which change nothing. */
final class LooksEdges {
    private final Checks c;

    private LooksEdges(Checks checks) {
        c = checks;
    }

    static void hold(Checks checks, Sentences s) {
        LooksEdges t = new LooksEdges(checks);
        t.holdPart(s);
        t.holdWays(s);
        t.holdCount(s);
        t.holdMeasure(s);
    }

    private void holdPart(Sentences s) {
        s.in("Promise 16: part");
        s.hold("Returns a property of a part", this::partChangesNothing);
        s.hold("`part`: its number", this::partsOfPart);
        s.hold("0: its total; 1: its tilted total", this::totals);
        s.hold("2: the least load with a weight above 0; 3: the greatest one", this::edgeLoads);
        s.hold("4: the sum of all loads times their weights; 5: the same with tilted weights",
                this::moments);
        s.hold("6: the load of the latest row, NONE without samples", this::latestLoad);
        s.hold("Returns the property", this::propertiesOfEachPart);
        s.hold("Throws `IndexOutOfBoundsException` if there is no such part", this::partNoSuch);
        s.hold("Throws `IllegalArgumentException` if what is not 0 to 6", this::partOutOfRange);
        s.in("Promise 17: weight");
        s.hold("Returns a weight.", this::weightChangesNothing);
        s.hold("`part`: its number", this::partsOfWeight);
        s.hold("`load`: 0 to 5", this::loadsOfWeight);
        s.hold("whether the tilted one", this::tiltedOrNot);
        s.hold("Returns the weight", this::weightsAtTheirEnds);
        s.hold("Throws `IndexOutOfBoundsException` if there is no such part or load",
                this::weightNoSuch);
    }

    private void holdWays(Sentences s) {
        s.in("Promise 18: ways");
        s.hold("Counts ways", this::waysChangesNothing);
        s.hold("`sum`: 0 to 99", this::waysAtTheEnds);
        s.hold("whether rows with a greater sum count, too", this::orAbove);
        s.hold("Returns the sum of the ways of all rows whose loads have this sum",
                this::waysOfAllRows);
        s.hold("Throws `IllegalArgumentException` if sum is out of range", this::waysOutOfRange);
        s.in("Promise 19: likeliest");
        s.hold("Returns the load of a part in the likeliest fault", this::likeliestChangesNothing);
        s.hold("`part`: its number", this::partsOfLikeliest);
        s.hold("of several the first one, by the load of the part 0, then by that of the part 1",
                this::firstOfSeveral);
        s.hold("NONE if no fault has a way", this::likeliestOfNone);
        s.hold("Throws `IndexOutOfBoundsException` if there is no such part",
                this::likeliestNoSuch);
    }

    private void holdCount(Sentences s) {
        s.in("Promise 20: count");
        s.hold("Returns a number", this::countChangesNothing);
        s.hold("0: parts; 1: the limit; 2: the seed", this::countsOfSettings);
        s.hold("3: samples; 4: samples that were faults", this::countsOfSamples);
        s.hold("5: the least sum of a row with a way; 6: the greatest one", this::edgeSums);
        s.hold("7: the ways of the likeliest fault, 0 if none has a way", this::waysOfLikeliest);
        s.hold("8: saved states", this::countOfSaved);
        s.hold("Returns the number", this::greatestCounts);
        s.hold("Throws `IllegalArgumentException` if what is not 0 to 8", this::countOutOfRange);
    }

    private void holdMeasure(Sentences s) {
        s.in("Promise 21: measure");
        s.hold("Returns a double", this::measureChangesNothing);
        s.hold("0: the odds", this::oddsAtTheEnds);
        s.hold("divided by the number of samples, 0.0 without samples", this::estimate);
        s.hold("2: the share of samples that were faults, likewise", this::share);
        s.hold("3: the mean of all corrections, likewise", this::mean);
        s.hold("divided by the sum of their squares, 0.0 without samples", this::effectiveNumber);
        s.hold("5: the correction of the latest row, 0.0 without samples", this::latestCorrection);
        s.hold("6: the estimate less the odds", this::estimateLessOdds);
        s.hold("Returns the double", this::measuresAfterForget);
        s.hold("Throws `IllegalArgumentException` if what is not 0 to 6", this::measureOutOfRange);
    }

    // ---- promise 16

    private void partChangesNothing() {
        for (int what = 0; what <= 6; what++) {
            int asked = what;
            c.looked("part(0, " + what + ")", Makers::busy, x -> x.part(0, asked));
        }
    }

    private void partsOfPart() {
        for (int what = 0; what <= 6; what++) {
            int asked = what;
            c.range("part with " + what, 0, 5, Makers.NO_INDEX, Makers::full,
                    (x, part) -> x.part(part, asked));
        }
    }

    private void totals() {
        RareFaults x = Checks.plantOf("000001;999999");
        c.due("the least total", 1, x.part(0, 0));
        c.due("the least tilted total", 1, x.part(0, 1));
        c.due("the greatest total", 54, x.part(1, 0));
        for (int load = 0; load <= 5; load++) {
            x.tilt(1, load, 99);
        }
        c.due("the greatest tilted total", 594, x.part(1, 1));
        c.due("the total stays", 54, x.part(1, 0));
    }

    private void edgeLoads() {
        for (int load = 0; load <= 5; load++) {
            RareFaults x = Checks.plantOf("0".repeat(load) + "3");
            c.due("the least of one load", load, x.part(0, 2));
            c.due("the greatest of one load", load, x.part(0, 3));
        }
        RareFaults x = Makers.sixLoads();
        c.due("the least of six", 0, x.part(0, 2));
        c.due("the greatest of six", 5, x.part(0, 3));
        x.weigh(0, 0, 0);
        x.weigh(0, 5, 0);
        x.weigh(0, 3, 0);
        c.due("the least of three", 1, x.part(0, 2));
        c.due("the greatest of three", 4, x.part(0, 3));
    }

    private void moments() {
        RareFaults x = Checks.plantOf("9;999999;000009");
        int[] wants = {0, 9 * 15, 45};
        for (int part = 0; part < 3; part++) {
            c.due("by weights", wants[part], x.part(part, 4));
            c.due("by tilted weights, as they are", wants[part], x.part(part, 5));
        }
        for (int load = 0; load <= 5; load++) {
            x.tilt(1, load, 99);
        }
        c.due("by weights yet", 9 * 15, x.part(1, 4));
        c.due("by the greatest tilted weights", 99 * 15, x.part(1, 5));
    }

    private void latestLoad() {
        RareFaults x = Checks.plantOf("000001;1");
        c.due("without samples", -1, x.part(0, 6));
        c.due("without samples, part 1", -1, x.part(1, 6));
        x.draw(1);
        c.due("the load 5", 5, x.part(0, 6));
        c.due("the load 0", 0, x.part(1, 6));
        x.seed(3);
        c.due("after seed", 5, x.part(0, 6));
        x.forget();
        c.due("after forget", -1, x.part(0, 6));
        x.undo();
        c.due("after undo", 5, x.part(0, 6));
        x.tilt(0, 5, 2);
        c.due("after a change", -1, x.part(0, 6));
    }

    private void propertiesOfEachPart() {
        RareFaults x = Makers.full();
        int[][] wants = {{21, 21, 0, 5, 70, 70}, {3, 3, 0, 1, 1, 1}, {7, 7, 1, 3, 15, 15},
            {5, 5, 0, 0, 0, 0}, {7, 7, 5, 5, 35, 35}, {17, 17, 0, 1, 8, 8}};
        for (int part = 0; part < 6; part++) {
            for (int what = 0; what <= 5; what++) {
                c.due("part(" + part + ", " + what + ")", wants[part][what], x.part(part, what));
            }
        }
        c.due("part(4, 6)", 5, x.part(4, 6));
        c.due("part(3, 6)", 0, x.part(3, 6));
    }

    private void partNoSuch() {
        c.refused("part without parts", RareFaults::new, Makers.NO_INDEX, x -> x.part(0, 0));
        c.refused("part 3 of three", Makers::busy, Makers.NO_INDEX, x -> x.part(3, 6));
        c.refused("part -1", Makers::busy, Makers.NO_INDEX, x -> x.part(-1, 6));
        c.refused("part 6 of six", Makers::full, Makers.NO_INDEX, x -> x.part(6, 0));
    }

    private void partOutOfRange() {
        c.range("part, what", 0, 6, Makers.NO_ARGUMENT, Makers::busy, (x, what) -> x.part(2, what));
    }

    // ---- promise 17

    private void weightChangesNothing() {
        c.looked("weight", Makers::busy, x -> x.weight(0, 0, false));
        c.looked("tilted weight", Makers::busy, x -> x.weight(0, 5, true));
    }

    private void partsOfWeight() {
        c.range("weight, part", 0, 2, Makers.NO_INDEX, Makers::busy,
                (x, part) -> x.weight(part, 0, false));
        c.range("tilted weight, part", 0, 5, Makers.NO_INDEX, Makers::full,
                (x, part) -> x.weight(part, 0, true));
    }

    private void loadsOfWeight() {
        c.range("weight, load", 0, 5, Makers.NO_INDEX, Makers::busy,
                (x, load) -> x.weight(1, load, false));
        RareFaults x = Checks.plantOf("123456;7");
        c.due("the load 0", 1, x.weight(0, 0, false));
        c.due("the load 5", 6, x.weight(0, 5, false));
        c.due("the load 0 of the part 1", 7, x.weight(1, 0, false));
    }

    private void tiltedOrNot() {
        RareFaults x = Checks.plantOf("12");
        x.tilt(0, 1, 99);
        c.due("the weight", 2, x.weight(0, 1, false));
        c.due("the tilted weight", 99, x.weight(0, 1, true));
    }

    private void weightsAtTheirEnds() {
        RareFaults x = Checks.plantOf("9");
        for (boolean isTilted : new boolean[] {false, true}) {
            c.due("the greatest", 9, x.weight(0, 0, isTilted));
            c.due("the least", 0, x.weight(0, 5, isTilted));
        }
        x.tilt(0, 0, 1);
        c.due("the least tilted one above 0", 1, x.weight(0, 0, true));
    }

    private void weightNoSuch() {
        c.refused("weight without parts", RareFaults::new, Makers.NO_INDEX,
                x -> x.weight(0, 0, false));
        c.refused("weight of part 3", Makers::busy, Makers.NO_INDEX, x -> x.weight(3, 0, true));
        c.refused("weight of part -1", Makers::busy, Makers.NO_INDEX, x -> x.weight(-1, 5, true));
        c.refused("weight of load 6", Makers::busy, Makers.NO_INDEX, x -> x.weight(0, 6, false));
        c.refused("weight of load -1", Makers::busy, Makers.NO_INDEX, x -> x.weight(1, -1, false));
    }

    // ---- promise 18

    private void waysChangesNothing() {
        c.looked("ways", Makers::busy, x -> x.ways(0, true));
        RareFaults x = Makers.busy();
        c.due("ways once", 168, x.ways(0, true));
        c.due("ways once more", 168, x.ways(0, true));
    }

    private void waysAtTheEnds() {
        RareFaults x = Checks.plantOf(Makers.MOST);
        c.due("of the sum 0", 531441, x.ways(0, false));
        c.due("of the sum 30", 531441, x.ways(30, false));
        c.due("of the sum 30 or above", 531441, x.ways(30, true));
        for (int sum : new int[] {31, 32, 60, 99}) {
            c.due("of the sum " + sum, 0, x.ways(sum, false));
            c.due("of the sum " + sum + " or above", 0, x.ways(sum, true));
        }
    }

    private void orAbove() {
        RareFaults x = Checks.plantOf("12;305;0007");
        long[] wants = {0, 0, 0, 21, 42, 35, 70, 0};
        long above = 168;
        for (int sum = 0; sum < wants.length; sum++) {
            c.due("ways(" + sum + ", false)", wants[sum], x.ways(sum, false));
            c.due("ways(" + sum + ", true)", above, x.ways(sum, true));
            above -= wants[sum];
        }
    }

    private void waysOfAllRows() {
        // all ways are more than an int can hold
        RareFaults x = Checks.plantOf(Makers.MOST);
        c.due("all ways", 24794911296L, x.ways(0, true));
        c.due("all ways but one row's", 24794379855L, x.ways(1, true));
        long all = 0;
        for (int sum = 0; sum <= 30; sum++) {
            c.due("ways of as far from the other end", x.ways(30 - sum, false),
                    x.ways(sum, false));
            all += x.ways(sum, false);
        }
        c.due("the sum of all", 24794911296L, all);
        RareFaults empty = new RareFaults();
        c.due("of the row without loads", 1, empty.ways(0, false));
        c.due("of no row", 0, empty.ways(1, true));
    }

    private void waysOutOfRange() {
        for (boolean orAbove : new boolean[] {false, true}) {
            c.range("ways", 0, 99, Makers.NO_ARGUMENT, Makers::busy,
                    (x, sum) -> x.ways(sum, orAbove));
        }
        c.range("ways without parts", 0, 99, Makers.NO_ARGUMENT, RareFaults::new,
                (x, sum) -> x.ways(sum, true));
    }

    // ---- promise 19

    private void likeliestChangesNothing() {
        c.looked("likeliest", Makers::busy, x -> x.likeliest(1));
        RareFaults x = Checks.plantOf("91;19");
        x.limit(0);
        c.due("of all rows", 0, x.likeliest(0));
        c.due("of all rows, part 1", 1, x.likeliest(1));
        x.tilt(0, 1, 99);
        c.due("tilted weights do not count", 0, x.likeliest(0));
    }

    private void partsOfLikeliest() {
        c.range("likeliest", 0, 2, Makers.NO_INDEX, Makers::busy, RareFaults::likeliest);
        c.range("likeliest of six", 0, 5, Makers.NO_INDEX, Makers::full, RareFaults::likeliest);
    }

    private void dueRow(String text, int limit, int... loads) {
        RareFaults x = Checks.plantOf(text);
        x.limit(limit);
        for (int part = 0; part < loads.length; part++) {
            c.due("likeliest(" + part + ") of " + text + " from " + limit, loads[part],
                    x.likeliest(part));
        }
    }

    private void firstOfSeveral() {
        dueRow("111;111;111", 0, 0, 0, 0);
        dueRow("111;111;111", 3, 0, 1, 2);
        dueRow("111;111;111", 5, 1, 2, 2);
        dueRow("111;111;111", 6, 2, 2, 2);
        dueRow("12;21", 1, 1, 0);
        dueRow("12;21", 2, 1, 1);
        dueRow("11;22;41", 1, 0, 1, 0);
        dueRow("33;11", 1, 0, 1);
        dueRow("42;21", 1, 0, 1);
        dueRow("12;24", 1, 1, 1);
        dueRow("12;22", 1, 1, 0);
        dueRow("12;24;1", 0, 1, 1, 0);
        dueRow("14;41", 1, 1, 0);
        dueRow("042;024", 2, 1, 2);
    }

    private void likeliestOfNone() {
        dueRow("11;11", 3, -1, -1);
        dueRow("11;11", 2, 1, 1);
        dueRow("1", 1, -1);
        dueRow("1", 99, -1);
        dueRow("1", 0, 0);
        dueRow(Makers.MOST, 30, 5, 5, 5, 5, 5, 5);
        dueRow(Makers.MOST, 31, -1, -1, -1, -1, -1, -1);
        dueRow(Makers.MOST, 62, -1, -1, -1, -1, -1, -1);
    }

    private void likeliestNoSuch() {
        c.refused("likeliest without parts", RareFaults::new, Makers.NO_INDEX,
                x -> x.likeliest(0));
        c.refused("likeliest(3) of three", Makers::busy, Makers.NO_INDEX, x -> x.likeliest(3));
        c.refused("likeliest(-1)", Makers::busy, Makers.NO_INDEX, x -> x.likeliest(-1));
    }

    // ---- promise 20

    private void countChangesNothing() {
        for (int what = 0; what <= 8; what++) {
            int asked = what;
            c.looked("count(" + what + ")", Makers::busy, x -> x.count(asked));
        }
    }

    private void countsOfSettings() {
        RareFaults x = new RareFaults();
        c.due("no parts", 0, x.count(0));
        c.due("the first limit", 10, x.count(1));
        c.due("the first seed", 1, x.count(2));
        RareFaults full = Makers.full();
        full.limit(99);
        full.seed(Integer.MAX_VALUE);
        c.due("six parts", 6, full.count(0));
        c.due("the greatest limit", 99, full.count(1));
        c.due("the greatest seed", Integer.MAX_VALUE, full.count(2));
        full.limit(0);
        full.seed(0);
        c.due("the least limit", 0, full.count(1));
        c.due("the least seed", 0, full.count(2));
    }

    private void countsOfSamples() {
        RareFaults x = Checks.plantOf("01");
        c.due("no samples", 0, x.count(3));
        c.due("no faults", 0, x.count(4));
        x.draw(64);
        c.due("64 samples", 64, x.count(3));
        c.due("no faults of 64", 0, x.count(4));
        x.limit(1);
        c.due("samples after a change", 0, x.count(3));
        x.draw(64);
        c.due("64 faults", 64, x.count(4));
        c.due("9999 samples", 9999, Makers.mostSamples().count(3));
    }

    private void edgeSums() {
        c.due("the least without parts", 0, new RareFaults().count(5));
        c.due("the greatest without parts", 0, new RareFaults().count(6));
        RareFaults x = Checks.plantOf("01;0011;000101");
        c.due("the least", 6, x.count(5));
        c.due("the greatest", 9, x.count(6));
        x.weigh(2, 5, 0);
        c.due("the greatest, less a load", 7, x.count(6));
        c.due("the least of most", 0, Checks.plantOf(Makers.MOST).count(5));
        c.due("the greatest of most", 30, Checks.plantOf(Makers.MOST).count(6));
        RareFaults last = Checks.plantOf("000001;000001;000001;000001;000001;000001");
        c.due("the least of the greatest loads", 30, last.count(5));
    }

    private void waysOfLikeliest() {
        RareFaults x = Checks.plantOf("12;305");
        int[] wants = {10, 10, 10, 10, 0, 0};
        for (int limit = 0; limit < wants.length; limit++) {
            x.limit(limit);
            c.due("from " + limit, wants[limit], x.count(7));
        }
        c.due("none without parts, from 10", 0, new RareFaults().count(7));
        RareFaults most = Checks.plantOf(Makers.MOST);
        most.limit(30);
        c.due("the most", 531441, most.count(7));
        for (int limit : new int[] {31, 62, 99}) {
            most.limit(limit);
            c.due("none from " + limit, 0, most.count(7));
        }
    }

    private void countOfSaved() {
        RareFaults x = new RareFaults();
        for (int calls = 0; calls <= 8; calls++) {
            c.due("saved states after " + calls, Math.min(calls, 6), x.count(8));
            x.forget();
        }
        x.undo();
        c.due("saved states after undo", 5, x.count(8));
    }

    private void greatestCounts() {
        RareFaults x = Checks.plantOf(Makers.MOST);
        x.limit(0);
        for (int i = 0; i < 6; i++) {
            x.draw(64);
        }
        int[] wants = {6, 0, x.count(2), 384, 384, 0, 30, 531441, 6};
        for (int what = 0; what < wants.length; what++) {
            c.due("count(" + what + ")", wants[what], x.count(what));
        }
    }

    private void countOutOfRange() {
        c.range("count", 0, 8, Makers.NO_ARGUMENT, Makers::busy, RareFaults::count);
        c.range("count of a new object", 0, 8, Makers.NO_ARGUMENT, RareFaults::new,
                RareFaults::count);
    }

    // ---- promise 21

    private void measureChangesNothing() {
        for (int what = 0; what <= 6; what++) {
            int asked = what;
            c.looked("measure(" + what + ")", Makers::busy, x -> x.measure(asked));
        }
    }

    private void oddsAtTheEnds() {
        RareFaults x = Checks.plantOf("12;305");
        double[] wants = {1.0, 21.0 / 24.0, 15.0 / 24.0, 10.0 / 24.0, 0.0};
        for (int limit = 0; limit < wants.length; limit++) {
            x.limit(limit);
            c.due("from " + limit, wants[limit], x.measure(0));
        }
        x.limit(99);
        c.due("from 99", 0.0, x.measure(0));
        RareFaults empty = new RareFaults();
        c.due("without parts", 0.0, empty.measure(0));
        empty.limit(0);
        c.due("without parts, from 0", 1.0, empty.measure(0));
    }

    /** A part whose load 1 is drawn three times as often as the load 0; the load 1 is a fault. */
    private static RareFaults tiltedHalf() {
        RareFaults x = Checks.plantOf("11");
        x.tilt(0, 1, 3);
        x.limit(1);
        return x;
    }

    private static void drawLoad(RareFaults x, int load) {
        x.seed(Makers.seedBefore(load * 65536L));
        x.draw(1);
    }

    private void estimate() {
        RareFaults x = tiltedHalf();
        double fault = 1.0 * 1 * 4 / 2 / 3;
        c.due("without samples", 0.0, x.measure(1));
        drawLoad(x, 0);
        c.due("of no fault", 0.0, x.measure(1));
        drawLoad(x, 1);
        c.due("of one fault in two", fault / 2, x.measure(1));
        drawLoad(x, 1);
        c.due("of two faults in three", (fault + fault) / 3, x.measure(1));
    }

    private void share() {
        RareFaults x = tiltedHalf();
        c.due("without samples", 0.0, x.measure(2));
        drawLoad(x, 1);
        c.due("one of one", 1.0, x.measure(2));
        drawLoad(x, 0);
        drawLoad(x, 0);
        c.due("one of three", 1.0 / 3.0, x.measure(2));
        x.forget();
        drawLoad(x, 0);
        c.due("none of one", 0.0, x.measure(2));
    }

    private void mean() {
        RareFaults x = tiltedHalf();
        double fault = 1.0 * 1 * 4 / 2 / 3;
        c.due("without samples", 0.0, x.measure(3));
        drawLoad(x, 0);
        c.due("of one", 2.0, x.measure(3));
        drawLoad(x, 1);
        drawLoad(x, 1);
        c.due("of three", (2.0 + fault + fault) / 3, x.measure(3));
    }

    private void effectiveNumber() {
        RareFaults x = tiltedHalf();
        double fault = 1.0 * 1 * 4 / 2 / 3;
        c.due("without samples", 0.0, x.measure(4));
        drawLoad(x, 0);
        c.due("of one", 1.0, x.measure(4));
        drawLoad(x, 1);
        c.due("of two", (2.0 + fault) * (2.0 + fault) / (4.0 + fault * fault), x.measure(4));
        RareFaults alike = Checks.plantOf("1;2");
        alike.draw(64);
        c.due("of 64 alike", 64.0, alike.measure(4));
    }

    private void latestCorrection() {
        RareFaults x = tiltedHalf();
        c.due("without samples", 0.0, x.measure(5));
        drawLoad(x, 0);
        c.due("of the load 0", 2.0, x.measure(5));
        drawLoad(x, 1);
        c.due("of the load 1", 1.0 * 1 * 4 / 2 / 3, x.measure(5));
        x.forget();
        c.due("after forget", 0.0, x.measure(5));
        x.undo();
        c.due("after undo", 1.0 * 1 * 4 / 2 / 3, x.measure(5));
        x.limit(1);
        c.due("after a change", 0.0, x.measure(5));
    }

    private void estimateLessOdds() {
        RareFaults x = tiltedHalf();
        c.due("without samples", -0.5, x.measure(6));
        drawLoad(x, 0);
        c.due("of no fault", -0.5, x.measure(6));
        drawLoad(x, 1);
        c.due("of one fault in two", 1.0 * 1 * 4 / 2 / 3 / 2 - 0.5, x.measure(6));
        x.limit(2);
        drawLoad(x, 1);
        c.due("of none, not of -0.0", 0.0, x.measure(6));
        x.limit(0);
        drawLoad(x, 0);
        c.due("above the odds", 1.0, x.measure(6));
    }

    private void measuresAfterForget() {
        RareFaults x = tiltedHalf();
        double[] anew = Makers.measures(x);
        x.draw(20);
        x.forget();
        c.dueMeasures("all measures", anew, x);
    }

    private void measureOutOfRange() {
        c.range("measure", 0, 6, Makers.NO_ARGUMENT, Makers::busy, RareFaults::measure);
        c.range("measure of a new object", 0, 6, Makers.NO_ARGUMENT, RareFaults::new,
                RareFaults::measure);
    }
}
