/** The terms Parts, Drawing and Settings, sentence by sentence. */
final class TermsEdges {
    private static final int MOST_SEED = 2147483647;

    private final Checks c;

    private TermsEdges(Checks checks) {
        c = checks;
    }

    static void hold(Checks checks, Sentences s) {
        TermsEdges t = new TermsEdges(checks);
        s.in("What it is");
        s.hold("An object is used for at most 512 calls", t::calls512);
        t.holdParts(s);
        t.holdDrawing(s);
        s.in("Settings");
        s.hold("they are changed by limit() and seed()", t::limitAndSeedAreLeftByOthers);
    }

    private void holdParts(Sentences s) {
        s.in("Parts");
        s.hold("There are at most 6 parts", this::atMostSixParts);
        s.hold("numbered from 0 in the order in which they came", this::numberedAsTheyCame);
        s.hold("if one is removed, those behind it have numbers that are less by 1",
                this::removedOfSix);
        s.hold("for each load 0 to 5", this::loads0To5);
        s.hold("a weight, 0 to 9", this::weights0To9);
        s.hold("a tilted weight, 0 to 99", this::tilted0To99);
        s.hold("the tilted weight of a load is 0 just if its weight is 0", this::bothAre0);
        s.hold("at least one weight is above 0", this::oneWeightAbove0);
        s.hold("It is a fault if the sum of its loads is at least the limit", this::sumIsTheLimit);
        s.hold("the limit, 0 to 99", this::limits0And99);
        s.hold("at first 10", this::firstLimit);
        s.hold("1 without parts; then there is one row, without loads", this::oneRowWithoutLoads);
        s.hold("as a double, divided by all ways, as a double", this::oddsAsDoubles);
    }

    private void holdDrawing(Sentences s) {
        s.in("Drawing");
        s.hold("There is a seed, 0 to 2147483647", this::seedStaysInRange);
        s.hold("at first 1", this::firstSeed);
        s.hold("in long arithmetic, modulo 2147483648", this::seedWraps);
        s.hold("divided by 65536, rounded down", this::roundedDown);
        s.hold("modulo the tilted total", this::moduloTotal);
        s.hold("is above this number", this::leastLoadAbove);
        s.hold("A row is drawn by drawing a load of each part, by ascending numbers",
                this::loadsByAscendingNumbers);
        s.hold("it becomes itself times w, then times v, then divided by t, then divided by u",
                this::correctionInItsOrder);
        s.hold("it begins as 1.0, and for each part, by ascending numbers",
                this::correctionByAscendingNumbers);
        s.hold("to which the new one is added as they come", this::sumsAsTheyCome);
        s.hold("Of all samples since they were forgotten last", this::samplesSinceForgotten);
        s.hold("the latest row, and its correction", this::latestRow);
        s.hold("also to what they are", this::forgottenAlsoIfTheSame);
        s.hold("Whenever parts, weights, tilted weights or the limit change",
                this::changesForget);
        s.hold("or the limit change (also to what they are), all samples are forgotten",
                this::othersForgetNothing);
        s.hold("Without parts a row can be drawn, too; its correction is 1.0",
                this::rowsWithoutParts);
    }

    // ---- what it is

    private void calls512() {
        RareFaults x = new RareFaults();
        x.addPart(5);
        for (int call = 2; call < 512; call++) {
            x.draw(1);
        }
        c.due("the call 512", 510, x.count(3));
        RareFaults y = new RareFaults();
        for (int call = 1; call < 512; call++) {
            y.limit(call % 100);
        }
        c.due("the call 512, limit", 511 % 100, y.limit(3));
    }

    // ---- parts

    private void atMostSixParts() {
        RareFaults x = new RareFaults();
        for (int part = 0; part < 5; part++) {
            x.addPart(0);
        }
        Checks.type(x, "1;1");
        c.due("addAll of two to five", "IllegalStateException", Checks.outcome(x::addAll));
        c.due("addPart to five", 5, x.addPart(0));
        c.due("addPart to six", "IllegalStateException", Checks.outcome(() -> x.addPart(0)));
        c.due("parts", 6, x.count(0));
        c.refused("addAll to six", () -> Makers.fullWith("1"), Makers.NO_STATE, RareFaults::addAll);
    }

    private void numberedAsTheyCame() {
        RareFaults x = Checks.plantOf("1;2");
        c.due("addPart", 2, x.addPart(1));
        Checks.type(x, "4;5;6");
        x.addAll();
        int[] wants = {1, 2, 1, 4, 5, 6};
        for (int part = 0; part < 6; part++) {
            c.due("weight of part " + part, wants[part], x.weight(part, 0, false));
        }
        c.refused("part -1", Makers::full, Makers.NO_INDEX, y -> y.weight(-1, 0, false));
    }

    private void removedOfSix() {
        for (int removed = 0; removed < 6; removed++) {
            RareFaults x = Checks.plantOf("1;2;3;4;5;6");
            for (int part = 0; part < 6; part++) {
                x.tilt(part, 0, 90 + part);
            }
            x.removePart(removed);
            for (int part = 0; part < 5; part++) {
                int was = part < removed ? part : part + 1;
                c.due("weight of part " + part, was + 1, x.weight(part, 0, false));
                c.due("tilted weight of part " + part, 90 + was, x.weight(part, 0, true));
            }
            c.due("part 5", "IndexOutOfBoundsException", Checks.outcome(() -> x.part(5, 0)));
        }
    }

    private void loads0To5() {
        RareFaults x = Makers.sixLoads();
        for (int load = 0; load <= 5; load++) {
            x.weigh(0, load, 3 + load);
            x.tilt(0, load, 80 + load);
        }
        for (int load = 0; load <= 5; load++) {
            c.due("weight of load " + load, 3 + load, x.weight(0, load, false));
            c.due("tilted weight of load " + load, 80 + load, x.weight(0, load, true));
        }
        for (boolean isTilted : new boolean[] {false, true}) {
            c.range("load", 0, 5, Makers.NO_INDEX, Makers::sixLoads,
                    (y, load) -> y.weight(0, load, isTilted));
        }
    }

    private void weights0To9() {
        for (int load = 0; load <= 5; load++) {
            int at = load;
            RareFaults x = Makers.sixLoads();
            x.weigh(0, load, 0);
            c.due("the least weight", 0, x.weight(0, load, false));
            x.weigh(0, load, 9);
            c.due("the greatest weight", 9, x.weight(0, load, false));
            c.refused("weigh to 10", Makers::sixLoads, Makers.NO_ARGUMENT, y -> y.weigh(0, at, 10));
            c.refused("weigh to -1", Makers::sixLoads, Makers.NO_ARGUMENT, y -> y.weigh(0, at, -1));
        }
        c.due("weights by a text", 9, Checks.plantOf("09").weight(0, 1, false));
    }

    private void tilted0To99() {
        for (int load = 0; load <= 5; load++) {
            int at = load;
            RareFaults x = Makers.sixLoads();
            x.tilt(0, load, 99);
            c.due("the greatest tilted weight", 99, x.weight(0, load, true));
            c.refused("tilt to 100", Makers::sixLoads, Makers.NO_ARGUMENT, y -> y.tilt(0, at, 100));
            x.weigh(0, load, 9);
            x.tiltAll(9);
            c.due("tilted by a rule", load == 0 ? 9 : Math.min(99, 9 + 81 * load),
                    x.weight(0, load, true));
            x.weigh(0, load, 0);
            c.due("the least tilted weight", 0, x.weight(0, load, true));
        }
    }

    private void bothAre0() {
        RareFaults x = new RareFaults();
        String[] names = {"addPart", "tiltAll(9)", "weigh to 0", "tilt of 0", "tiltAll(0)",
            "weigh from 0", "weigh 0 to 0", "addAll", "tilt to 0", "removePart", "undo", "undo"};
        Checks.Call[] calls = {() -> x.addPart(3), () -> x.tiltAll(9), () -> x.weigh(0, 1, 0),
            () -> x.tilt(0, 1, 1), () -> x.tiltAll(0), () -> x.weigh(0, 5, 2),
            () -> x.weigh(0, 4, 0), () -> typedAndAdded(x), () -> x.tilt(1, 0, 0),
            () -> x.removePart(0), x::undo, x::undo};
        for (int i = 0; i < calls.length; i++) {
            Checks.outcome(calls[i]);
            for (int part = 0; part < x.count(0); part++) {
                for (int load = 0; load <= 5; load++) {
                    c.due("after " + names[i] + ", tilted 0 of load " + load,
                            x.weight(part, load, false) == 0, x.weight(part, load, true) == 0);
                }
            }
        }
    }

    private static int typedAndAdded(RareFaults x) {
        Checks.type(x, "90;002");
        return x.addAll();
    }

    private void oneWeightAbove0() {
        for (int load = 0; load <= 5; load++) {
            int at = load;
            String text = "0".repeat(load) + "5";
            c.refused("weigh the only load " + load, () -> Checks.plantOf(text), Makers.NO_STATE,
                    x -> x.weigh(0, at, 0));
        }
        RareFaults x = Makers.sixLoads();
        for (int load = 0; load < 5; load++) {
            c.due("weigh to 0", 1, x.weigh(0, load, 0));
        }
        c.due("weigh the last to 0", "IllegalStateException",
                Checks.outcome(() -> x.weigh(0, 5, 0)));
        c.due("weigh a load that is 0 to 0", 0, x.weigh(0, 4, 0));
        c.due("the total", 1, x.part(0, 0));
    }

    private void sumIsTheLimit() {
        RareFaults x = Checks.plantOf("01;001");
        for (int limit = 2; limit <= 4; limit++) {
            boolean isFault = limit <= 3;
            x.limit(limit);
            c.due("faults from " + limit, isFault ? 5 : 0, x.draw(5));
            c.due("faults that are kept", isFault ? 5 : 0, x.count(4));
            c.due("the odds", isFault ? 1.0 : 0.0, x.measure(0));
            c.due("the estimate", isFault ? 1.0 : 0.0, x.measure(1));
            c.due("the share", isFault ? 1.0 : 0.0, x.measure(2));
            c.due("ways of the likeliest fault", isFault ? 1 : 0, x.count(7));
            c.due("load in the likeliest fault", isFault ? 2 : -1, x.likeliest(1));
            c.due("greatest correction of a fault", isFault ? 1.0 : 0.0, x.greatest(true));
        }
    }

    private void limits0And99() {
        RareFaults x = Checks.plantOf("1");
        x.limit(0);
        c.due("the least sum is a fault from 0", 1, x.draw(1));
        RareFaults most = Checks.plantOf("000001;000001;000001;000001;000001;000001");
        most.limit(99);
        c.due("the greatest sum is no fault from 99", 0, most.draw(64));
        c.due("its odds", 0.0, most.measure(0));
        c.due("its likeliest fault", -1, most.likeliest(0));
        c.range("limit", 0, 99, Makers.NO_ARGUMENT, Makers::busy, RareFaults::limit);
    }

    private void firstLimit() {
        c.due("the first limit", 10, new RareFaults().count(1));
        c.due("faults of the sum 10", 2, Checks.plantOf("000001;000001").draw(2));
        c.due("faults of the sum 9", 0, Checks.plantOf("000001;00001").draw(2));
        c.due("what limit() returns first", 10, new RareFaults().limit(5));
    }

    private void oneRowWithoutLoads() {
        RareFaults removed = Checks.plantOf("5");
        removed.removePart(0);
        for (RareFaults x : new RareFaults[] {new RareFaults(), removed}) {
            c.due("all ways", 1, x.ways(0, true));
            c.due("ways of the sum 0", 1, x.ways(0, false));
            c.due("ways of the sum 1", 0, x.ways(1, true));
            c.due("odds with the limit 0", 1.0, x.ifLimit(0));
            c.due("odds with the limit 1", 0.0, x.ifLimit(1));
            c.due("the least sum", 0, x.count(5));
            c.due("the greatest sum", 0, x.count(6));
            c.due("its correction", 1.0, x.greatest(false));
            x.limit(0);
            c.due("ways of the fault without loads", 1, x.count(7));
        }
    }

    private void oddsAsDoubles() {
        c.due("2 of 3", 2.0 / 3.0, Checks.plantOf("12").ifLimit(1));
        c.due("1 of 3", 1.0 / 3.0, Checks.plantOf("21").ifLimit(1));
        RareFaults most = Checks.plantOf(Makers.MOST);
        c.due("the least odds above 0", 531441.0 / 24794911296.0, most.ifLimit(30));
        c.due("the odds next to 1", 24794379855.0 / 24794911296.0, most.ifLimit(1));
    }

    // ---- drawing

    private void seedStaysInRange() {
        RareFaults x = Checks.plantOf("11");
        long seed = 1;
        for (int row = 0; row < 200; row++) {
            x.draw(1);
            seed = Makers.seedAfter(seed);
            c.due("the seed after " + row, seed, x.count(2));
            c.due("the seed is in range", true, x.count(2) >= 0);
        }
        c.due("seed(max) is taken", (int) seed, x.seed(MOST_SEED));
        c.due("seed(0) is taken", MOST_SEED, x.seed(0));
    }

    private void firstSeed() {
        RareFaults x = Checks.plantOf("1");
        c.due("the first seed", 1, x.count(2));
        x.draw(1);
        c.due("the second seed", 1103527590, x.count(2));
    }

    private void seedWraps() {
        int[][] seedsAndNext = {{MOST_SEED, 1043980748}, {0, 12345}, {2088216195, 0},
            {230538014, MOST_SEED}, {2, 59559187}};
        for (int[] pair : seedsAndNext) {
            RareFaults x = Checks.plantOf("1");
            x.seed(pair[0]);
            x.draw(1);
            c.due("the seed after " + pair[0], pair[1], x.count(2));
        }
    }

    /** Draws a load with this seed as the next one, by the weights 0, 3, 0, 2. */
    private void dueLoad(int want, long next) {
        RareFaults x = Checks.plantOf("0302");
        x.seed(Makers.seedBefore(next));
        x.draw(1);
        c.due("the seed", next, x.count(2));
        c.due("the load by the seed " + next, want, x.part(0, 6));
    }

    private void roundedDown() {
        dueLoad(1, 3 * 65536 - 1);
        dueLoad(3, 3 * 65536);
        dueLoad(3, 5 * 65536 - 1);
        dueLoad(1, 0);
        dueLoad(1, 65535);
    }

    private void moduloTotal() {
        dueLoad(3, 4 * 65536);
        dueLoad(1, 5 * 65536);
        dueLoad(1, 7 * 65536);
        dueLoad(3, 8 * 65536);
        dueLoad(3, 32764L * 65536);
        dueLoad(1, 32767L * 65536);
        dueLoad(1, MOST_SEED);
    }

    private void leastLoadAbove() {
        int[] wants = {0, 0, 2, 5, 5, 5};
        for (int number = 0; number < wants.length; number++) {
            RareFaults x = Checks.plantOf("101001");
            x.tilt(0, 0, 2);
            x.tilt(0, 5, 3);
            x.seed(Makers.seedBefore(number * 65536L));
            x.draw(1);
            c.due("the load by the number " + number, wants[number], x.part(0, 6));
        }
        RareFaults last = Checks.plantOf("000001");
        last.draw(1);
        c.due("the only load", 5, last.part(0, 6));
    }

    private void loadsByAscendingNumbers() {
        // of the seeds with the number 1, one that is followed by one with an even number
        long first = 65536;
        while (first < 2 * 65536 - 1 && Makers.seedAfter(first) / 65536 % 2 == 1) {
            first++;
        }
        RareFaults x = Checks.plantOf("11;0011");
        x.seed(Makers.seedBefore(first));
        x.draw(1);
        c.due("part 0 is drawn by the first seed", 1, x.part(0, 6));
        c.due("part 1 is drawn by the second seed", 2, x.part(1, 6));
        c.due("the seed", Makers.seedAfter(first), x.count(2));
    }

    private void correctionInItsOrder() {
        // any other order of these four rounds to another double
        RareFaults x = Checks.plantOf("32");
        x.tilt(0, 1, 20);
        drawRowOf0(x);
        c.due("the correction", 1.0 * 3 * 23 / 5 / 3, x.measure(5));
        c.due("other orders differ", false, x.measure(5) == 1.0 * 3 / 5 * 23 / 3);
    }

    private void correctionByAscendingNumbers() {
        RareFaults x = Checks.plantOf("32;11");
        x.tilt(0, 1, 20);
        x.tilt(1, 0, 15);
        x.tilt(1, 1, 7);
        drawRowOf0(x);
        double first = 1.0 * 3 * 23 / 5 / 3;
        double second = 1.0 * 1 * 22 / 2 / 15;
        c.due("the correction", first * 1 * 22 / 2 / 15, x.measure(5));
        c.due("descending numbers differ", false, x.measure(5) == second * 3 * 23 / 5 / 3);
        c.due("a product of two differs", false, x.measure(5) == first * second);
    }

    /** Draws rows until one has the load 0 in each part. */
    private void drawRowOf0(RareFaults x) {
        for (int row = 0; row < 300; row++) {
            x.draw(1);
            int loads = 0;
            for (int part = 0; part < x.count(0); part++) {
                loads += x.part(part, 6);
            }
            if (loads == 0) {
                return;
            }
        }
        c.due("a row of loads 0", "drawn", "not drawn");
    }

    private void sumsAsTheyCome() {
        RareFaults x = Checks.plantOf("711;123");
        x.limit(3);
        x.tiltAll(5);
        double sum = 0.0;
        double faultSum = 0.0;
        double squares = 0.0;
        for (int row = 1; row <= 100; row++) {
            boolean isFault = x.draw(1) == 1;
            double correction = x.measure(5);
            sum += correction;
            faultSum += isFault ? correction : 0.0;
            squares += correction * correction;
            c.due("the mean of " + row, sum / row, x.measure(3));
            c.due("the estimate of " + row, faultSum / row, x.measure(1));
            c.due("the effective number of " + row, sum * sum / squares, x.measure(4));
        }
    }

    private void samplesSinceForgotten() {
        RareFaults x = Checks.plantOf("11;11");
        RareFaults y = Checks.plantOf("11;11");
        x.limit(1);
        y.limit(1);
        x.tilt(0, 1, 5);
        y.tilt(0, 1, 5);
        x.draw(10);
        x.forget();
        y.seed(x.count(2));
        c.due("faults of the next draw", y.draw(7), x.draw(7));
        c.due("samples", 7, x.count(3));
        c.due("faults", y.count(4), x.count(4));
        c.dueMeasures("all measures", Makers.measures(y), x);
    }

    private void latestRow() {
        RareFaults x = Checks.plantOf("11;011");
        x.tilt(0, 1, 3);
        x.draw(64);
        for (int number = 0; number < 4; number++) {
            x.seed(Makers.seedBefore(number * 65536L));
            x.draw(1);
            c.due("its load", number == 0 ? 0 : 1, x.part(0, 6));
            c.due("its correction", number == 0 ? 2.0 : 1.0 * 1 * 4 / 2 / 3, x.measure(5));
        }
    }

    private void forgottenAlsoIfTheSame() {
        dueForgotten("weigh", x -> x.weigh(0, 1, 2));
        dueForgotten("weigh of 0", x -> x.weigh(0, 5, 0));
        dueForgotten("tilt", x -> x.tilt(1, 0, 3));
        dueForgotten("tiltAll", x -> x.tiltAll(0));
        dueForgotten("limit", x -> x.limit(2));
        RareFaults empty = new RareFaults();
        empty.draw(3);
        empty.tiltAll(2);
        c.due("tiltAll without parts, samples", 0, empty.count(3));
    }

    private void changesForget() {
        dueForgotten("addPart", x -> x.addPart(0));
        dueForgotten("removePart", x -> x.removePart(1));
        dueForgotten("addAll", TermsEdges::typedAndAdded);
        dueForgotten("weigh", x -> x.weigh(0, 1, 3));
        dueForgotten("weigh to 0", x -> x.weigh(0, 1, 0));
        dueForgotten("weigh from 0", x -> x.weigh(0, 5, 1));
        dueForgotten("tilt", x -> x.tilt(1, 0, 4));
        dueForgotten("tiltAll", x -> x.tiltAll(9));
        dueForgotten("limit", x -> x.limit(3));
        RareFaults last = Checks.plantOf("1");
        last.draw(3);
        last.removePart(0);
        c.due("removePart of the last, samples", 0, last.count(3));
    }

    private void dueForgotten(String what, Checks.On change) {
        RareFaults x = Checks.plantOf("12;305");
        x.limit(2);
        x.draw(20);
        c.due("faults before " + what, true, x.count(4) > 0);
        change.answer(x);
        c.due(what + ", samples", 0, x.count(3));
        c.due(what + ", faults", 0, x.count(4));
        for (int kind = 1; kind <= 5; kind++) {
            c.due(what + ", measure(" + kind + ")", 0.0, x.measure(kind));
        }
        c.due(what + ", the latest row", -1, x.part(0, 6));
    }

    private void othersForgetNothing() {
        String[] names = {"seed", "append", "clearBuffer", "firstError", "digest", "ways",
            "greatest", "slightest", "limitFor", "refused limit", "refused addAll",
            "refused weigh"};
        Checks.On[] calls = {x -> x.seed(3), x -> x.append('1'), RareFaults::clearBuffer,
            RareFaults::firstError, RareFaults::digest, x -> x.ways(3, true),
            x -> x.greatest(true), RareFaults::slightest, x -> x.limitFor(5), x -> x.limit(100),
            RareFaults::addAll, x -> x.weigh(0, 0, 10)};
        for (int i = 0; i < calls.length; i++) {
            RareFaults x = Makers.busy();
            double[] before = Makers.measures(x);
            Checks.On call = calls[i];
            Checks.outcome(() -> call.answer(x));
            c.due(names[i] + " forgets no samples", 25, x.count(3));
            c.dueMeasures(names[i], before, x);
        }
    }

    private void rowsWithoutParts() {
        RareFaults x = new RareFaults();
        c.due("draw(64) without parts", 0, x.draw(64));
        c.due("samples", 64, x.count(3));
        c.due("the seed stays, for no load is drawn", 1, x.count(2));
        c.due("the correction", 1.0, x.measure(5));
        c.due("the mean of corrections", 1.0, x.measure(3));
        c.due("the effective number", 64.0, x.measure(4));
        x.limit(0);
        c.due("draw(64) without parts, limit 0", 64, x.draw(64));
        c.due("the estimate", 1.0, x.measure(1));
    }

    // ---- settings

    private void limitAndSeedAreLeftByOthers() {
        Checks.On[] calls = {x -> x.addPart(1), x -> x.removePart(0), x -> x.weigh(0, 0, 4),
            x -> x.tilt(0, 0, 4), x -> x.tiltAll(3), RareFaults::forget, x -> x.append('1'),
            RareFaults::clearBuffer, x -> x.ifLimit(7), x -> x.limitFor(7), RareFaults::digest};
        for (Checks.On call : calls) {
            RareFaults x = Makers.busy();
            int seed = x.count(2);
            call.answer(x);
            c.due("the limit", 4, x.count(1));
            c.due("the seed", seed, x.count(2));
        }
        RareFaults x = Makers.busy();
        int seed = x.count(2);
        x.limit(5);
        c.due("the seed after limit", seed, x.count(2));
        x.seed(8);
        c.due("the limit after seed", 5, x.count(1));
        x.draw(1);
        c.due("the limit after draw", 5, x.count(1));
    }
}
