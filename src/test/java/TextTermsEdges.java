import java.util.Arrays;

/** The terms Input text, Undo and Exceptions, sentence by sentence. */
final class TextTermsEdges {
    private final Checks c;

    private TextTermsEdges(Checks checks) {
        c = checks;
    }

    static void hold(Checks checks, Sentences s) {
        TextTermsEdges t = new TextTermsEdges(checks);
        t.holdInputText(s);
        t.holdUndo(s);
        t.holdExceptions(s);
    }

    private void holdInputText(Sentences s) {
        s.in("Input text");
        s.hold("The buffer has at most 60 characters", this::sixtyCharacters);
        s.hold("one or more parts with \";\" between them", this::oneOrMoreParts);
        s.hold("each one to six digits", this::oneToSixDigits);
        s.hold("digits 0 to 9", this::digits0To9);
        s.hold("those that are not told are 0", this::notToldAre0);
        s.hold("at least one of them not 0", this::oneNot0);
        s.hold("Tilted weights are as the weights then", this::tiltedAsWeights);
        s.hold("The buffer is read from left to right", this::fromLeftToRight);
        s.hold("if no parts as a text, of any length, begin with", this::ofAnyLength);
    }

    private void holdUndo(Sentences s) {
        s.in("Undo");
        s.hold("Each method that is marked \"undoable\"", this::undoableSave);
        s.hold("and does not throw an exception", this::refusedSaveNothing);
        s.hold("also if it changes nothing", this::savesWithoutChange);
        s.hold("all, also samples and the seed", this::allIsSaved);
        s.hold("saves the state from before it", this::latestRowIsSaved);
        s.hold("but the buffer and the saved states", this::bufferIsNotSaved);
        s.hold("At most 6 states are saved", this::sixStates);
        s.hold("the oldest one is dropped first", this::oldestIsDropped);
    }

    private void holdExceptions(Sentences s) {
        s.in("Exceptions");
        s.hold("A call that throws an exception changes nothing", this::refusedChangeNothing);
        s.hold("the one that is named first in the throws clause is thrown", this::firstNamed);
        s.hold("The constants: `NONE = -1`: There is nothing to return", this::nothingToReturn);
    }

    // ---- input text

    private void sixtyCharacters() {
        RareFaults x = Makers.typed("1".repeat(59));
        c.due("the character 60", 60, x.append('1'));
        c.refused("the character 61", () -> Makers.typed("1".repeat(60)), Makers.NO_STATE,
                y -> y.append('1'));
        c.due("the length", 60, x.clearBuffer());
        Checks.type(x, "1;".repeat(30));
        c.due("60 characters once more, all read", 60, x.firstError());
        c.due("their length", 60, x.clearBuffer());
    }

    /** Checks where a text has its first error, its length if none, and whether it can be added. */
    private void dueText(String text, int error, boolean isComplete) {
        c.due("firstError of " + text, error, Makers.typed(text).firstError());
        Object want = isComplete ? text.split(";").length : "IllegalArgumentException";
        c.due("addAll of " + text, want, Checks.outcome(Makers.typed(text)::addAll));
    }

    private void oneOrMoreParts() {
        dueText("", 0, false);
        dueText("1", 1, true);
        dueText("1;1", 3, true);
        dueText("1;1;1;1;1;1", 11, true);
        dueText(";", 0, false);
        dueText(";1", 0, false);
        dueText("1;", 2, false);
        dueText("1;;1", 2, false);
        dueText("1;1;", 4, false);
        dueText("1,1", 1, false);
    }

    private void oneToSixDigits() {
        dueText("1", 1, true);
        dueText("123456", 6, true);
        dueText("1234567", 6, false);
        dueText("1;123456", 8, true);
        dueText("1;1234567", 8, false);
        dueText("123456;123456", 13, true);
        dueText("1234560", 6, false);
        dueText("0000001", 5, false);
    }

    private void digits0To9() {
        dueText("0123", 4, true);
        dueText("9", 1, true);
        dueText("1/", 1, false);
        dueText("/", 0, false);
        dueText("1:", 1, false);
        dueText(":", 0, false);
        dueText("1;/", 2, false);
        dueText("1<", 1, false);
        dueText("!", 0, false);
        dueText("~", 0, false);
    }

    private void notToldAre0() {
        for (int digits = 1; digits <= 6; digits++) {
            RareFaults x = Checks.plantOf("7".repeat(digits));
            for (int load = 0; load <= 5; load++) {
                int want = load < digits ? 7 : 0;
                c.due("weight of load " + load, want, x.weight(0, load, false));
                c.due("tilted weight of load " + load, want, x.weight(0, load, true));
            }
        }
        RareFaults again = Checks.plantOf("777777");
        again.removePart(0);
        Checks.type(again, "5");
        again.addAll();
        c.due("weight that a removed part had", 0, again.weight(0, 5, false));
        again.undo();
        again.undo();
        c.due("weight after undo", 7, again.weight(0, 5, false));
    }

    private void oneNot0() {
        dueText("0", 1, false);
        dueText("00000", 5, false);
        dueText("000000", 5, false);
        dueText("000001", 6, true);
        dueText("100000", 6, true);
        dueText("0;1", 1, false);
        dueText("00000;", 5, false);
        dueText("1;0", 3, false);
        dueText("1;000000", 7, false);
        dueText("1;000001", 8, true);
        dueText("000009;00009;9", 14, true);
    }

    private void tiltedAsWeights() {
        RareFaults x = Checks.plantOf("1");
        x.tiltAll(9);
        x.tilt(0, 0, 99);
        Checks.type(x, "901005;1");
        x.addAll();
        int[] wants = {9, 0, 1, 0, 0, 5};
        for (int load = 0; load <= 5; load++) {
            c.due("tilted weight of load " + load, wants[load], x.weight(1, load, true));
        }
        c.due("tilted weight of the last part", 1, x.weight(2, 0, true));
        c.due("tilted weight of the part that was there", 99, x.weight(0, 0, true));
    }

    private void fromLeftToRight() {
        dueText("a1;;", 0, false);
        dueText("1;;a", 2, false);
        dueText("1a;;0000000", 1, false);
        dueText("1;1;1234567;x", 10, false);
    }

    private void ofAnyLength() {
        dueText("1;1;1;1;1;1;", 12, false);
        c.due("seven parts", 13, Makers.typed("1;1;1;1;1;1;1").firstError());
        c.due("30 parts", 59, Makers.typed("1;".repeat(29) + "1").firstError());
        String full = "1;".repeat(27);
        c.due("60 characters that go on with a part", 60,
                Makers.typed(full + "12345;").firstError());
        c.due("60 characters that go on with a digit", 60,
                Makers.typed(full + "1;0000").firstError());
        c.due("60 characters whose last one is an error", 59,
                Makers.typed(full + "000000").firstError());
    }

    // ---- undo

    private static final String[] UNDOABLE = {"addPart", "removePart", "weigh", "tilt", "tiltAll",
        "limit", "seed", "draw", "forget", "addAll"};
    private static final Checks.On[] UNDOABLE_CALLS = {x -> x.addPart(2), x -> x.removePart(1),
        x -> x.weigh(1, 0, 0), x -> x.tilt(1, 2, 50), x -> x.tiltAll(9), x -> x.limit(2),
        x -> x.seed(5), x -> x.draw(8), RareFaults::forget, RareFaults::addAll};

    /** Parts and samples, with four saved states and a complete text in the buffer. */
    private static RareFaults withSamples() {
        RareFaults x = Checks.plantOf("12;305");
        x.limit(3);
        x.tiltAll(4);
        x.draw(11);
        Checks.type(x, "2;003");
        return x;
    }

    private void undoableSave() {
        for (int i = 0; i < UNDOABLE.length; i++) {
            RareFaults x = withSamples();
            UNDOABLE_CALLS[i].answer(x);
            c.due(UNDOABLE[i] + " saves one state", 5, x.count(8));
            c.due("undo of " + UNDOABLE[i], 4, x.undo());
            x.clearBuffer();
            Checks.type(x, "2;003");
            c.alike("undo of " + UNDOABLE[i] + " restores", withSamples(), x);
        }
        Checks.On[] others = {x -> x.append('1'), RareFaults::clearBuffer, RareFaults::firstError,
            x -> x.part(0, 0), x -> x.weight(0, 0, true), x -> x.ways(1, true),
            x -> x.likeliest(0), x -> x.count(7), x -> x.measure(6), x -> x.ifLimit(3),
            x -> x.limitFor(3), x -> x.greatest(true), RareFaults::slightest, RareFaults::digest};
        for (int i = 0; i < others.length; i++) {
            RareFaults x = withSamples();
            others[i].answer(x);
            c.due("others save nothing, call " + i, 4, x.count(8));
        }
    }

    private void refusedSaveNothing() {
        Checks.On[] calls = {x -> x.addPart(6), x -> x.removePart(2), x -> x.weigh(0, 0, 10),
            x -> x.tilt(1, 1, 5), x -> x.tiltAll(10), x -> x.limit(100), x -> x.seed(-1),
            x -> x.draw(65), x -> x.append(32), x -> x.count(9)};
        for (int i = 0; i < calls.length; i++) {
            RareFaults x = withSamples();
            Checks.On call = calls[i];
            c.due("call " + i + " throws", true,
                    Checks.outcome(() -> call.answer(x)) instanceof String);
            c.due("call " + i + " saves nothing", 4, x.count(8));
        }
    }

    private void savesWithoutChange() {
        String[] names = {"weigh", "weigh 0", "tilt", "tiltAll", "limit", "seed", "forget"};
        Checks.On[] calls = {x -> x.weigh(0, 1, 2), x -> x.weigh(0, 5, 0), x -> x.tilt(1, 0, 3),
            x -> x.tiltAll(0), x -> x.limit(10), x -> x.seed(1), RareFaults::forget};
        for (int i = 0; i < calls.length; i++) {
            RareFaults x = Checks.plantOf("12;305");
            calls[i].answer(x);
            c.due(names[i] + " saves, though nothing changes", 2, x.count(8));
            c.due("undo of " + names[i], 1, x.undo());
            c.alike("undo of " + names[i], Checks.plantOf("12;305"), x);
        }
        RareFaults empty = new RareFaults();
        empty.tiltAll(5);
        c.due("tiltAll without parts saves", 1, empty.count(8));
    }

    private void allIsSaved() {
        RareFaults x = withSamples();
        double[] measures = Makers.measures(x);
        int seed = x.count(2);
        int faults = x.count(4);
        int load = x.part(1, 6);
        x.draw(64);
        x.removePart(0);
        x.limit(20);
        x.seed(6);
        for (int i = 0; i < 4; i++) {
            x.undo();
        }
        c.due("parts", 2, x.count(0));
        c.due("the limit", 3, x.count(1));
        c.due("the seed", seed, x.count(2));
        c.due("samples", 11, x.count(3));
        c.due("faults", faults, x.count(4));
        c.due("the latest row", load, x.part(1, 6));
        c.due("a tilted weight", 45, x.weight(1, 2, true));
        c.dueMeasures("all measures", measures, x);
    }

    private void latestRowIsSaved() {
        RareFaults x = Checks.plantOf("12;305;111111");
        x.draw(1);
        int others = 0;
        for (int row = 0; row < 40; row++) {
            int[] loads = latestLoads(x);
            x.draw(1);
            others += Arrays.equals(loads, latestLoads(x)) ? 0 : 1;
            x.undo();
            for (int part = 0; part < 3; part++) {
                c.due("the load of part " + part + " before " + row, loads[part],
                        x.part(part, 6));
            }
            x.draw(1);
        }
        c.due("rows differ", true, others > 20);
    }

    private static int[] latestLoads(RareFaults x) {
        int[] loads = new int[x.count(0)];
        for (int part = 0; part < loads.length; part++) {
            loads[part] = x.part(part, 6);
        }
        return loads;
    }

    private void bufferIsNotSaved() {
        RareFaults x = new RareFaults();
        Checks.type(x, "12");
        x.limit(5);
        Checks.type(x, ";3");
        x.undo();
        c.due("the buffer after undo", Digests.of(x, "12;3"), x.digest());
        c.due("addAll of it", 2, x.addAll());
        x.undo();
        c.due("the buffer that addAll cleared", Digests.of(x, ""), x.digest());
        c.due("undo brings no saved state back", 0, x.count(8));
    }

    private void sixStates() {
        for (int calls = 1; calls <= 20; calls++) {
            RareFaults x = new RareFaults();
            for (int limit = 1; limit <= calls; limit++) {
                x.limit(limit);
            }
            int states = Math.min(calls, 6);
            c.due("saved states of " + calls, states, x.count(8));
            for (int left = states - 1; left >= 0; left--) {
                c.due("undo", left, x.undo());
            }
            c.due("undo of no state", "IllegalStateException", Checks.outcome(x::undo));
            c.due("the oldest limit of " + calls, calls <= 6 ? 10 : calls - 6, x.count(1));
        }
    }

    private void oldestIsDropped() {
        RareFaults x = Checks.plantOf("12;305");
        int[] seeds = new int[10];
        double[] means = new double[10];
        for (int i = 0; i < 10; i++) {
            seeds[i] = x.count(2);
            means[i] = x.measure(3);
            x.draw(1);
            if (i == 4) {
                x.undo();
                x.draw(1);
            }
        }
        for (int i = 9; i >= 4; i--) {
            x.undo();
            c.due("the seed before draw " + i, seeds[i], x.count(2));
            c.due("the mean before draw " + i, means[i], x.measure(3));
            c.due("samples before draw " + i, i, x.count(3));
        }
        c.due("undo of a dropped state", "IllegalStateException", Checks.outcome(x::undo));
    }

    // ---- exceptions

    private void refusedChangeNothing() {
        c.due("saved states of the busy object", 6, Makers.busy().count(8));
        Checks.On[] arguments = {x -> x.addPart(-1), x -> x.addPart(6), x -> x.weigh(0, 0, 10),
            x -> x.weigh(0, 0, -1), x -> x.tilt(0, 0, 0), x -> x.tilt(0, 0, 100),
            x -> x.tiltAll(-1), x -> x.tiltAll(10), x -> x.limit(-1), x -> x.limit(100),
            x -> x.seed(-1), x -> x.draw(0), x -> x.draw(65), x -> x.append(32),
            x -> x.append(127), RareFaults::addAll, x -> x.part(0, 7), x -> x.ways(100, true),
            x -> x.count(9), x -> x.measure(7), x -> x.ifLimit(100), x -> x.limitFor(1001)};
        for (int i = 0; i < arguments.length; i++) {
            c.refused("wrong argument " + i, Makers::busy, Makers.NO_ARGUMENT, arguments[i]);
        }
        Checks.On[] places = {x -> x.removePart(3), x -> x.removePart(-1), x -> x.weigh(3, 0, 1),
            x -> x.weigh(0, 6, 1), x -> x.tilt(-1, 0, 1), x -> x.tilt(0, -1, 1),
            x -> x.part(3, 0), x -> x.weight(3, 0, true), x -> x.weight(0, 6, false),
            x -> x.likeliest(3)};
        for (int i = 0; i < places.length; i++) {
            c.refused("no such place " + i, Makers::busy, Makers.NO_INDEX, places[i]);
        }
        c.refused("addPart to six", Makers::full, Makers.NO_STATE, x -> x.addPart(0));
        c.refused("weigh of the only load", Makers::busy, Makers.NO_STATE, x -> x.weigh(2, 3, 0));
        c.refused("tilt of no weight", Makers::busy, Makers.NO_STATE, x -> x.tilt(1, 1, 9));
        c.refused("draw beyond 9999", Makers::mostSamples, Makers.NO_STATE, x -> x.draw(1));
        c.refused("append to 60", () -> Makers.typed("x".repeat(60)), Makers.NO_STATE,
                x -> x.append('1'));
        c.refused("addAll to six", () -> Makers.fullWith("1"), Makers.NO_STATE, RareFaults::addAll);
        c.refused("undo of nothing", () -> Makers.typed("1"), Makers.NO_STATE, RareFaults::undo);
    }

    private void firstNamed() {
        c.refused("addPart, both", Makers::full, Makers.NO_ARGUMENT, x -> x.addPart(6));
        c.refused("addPart, both, below", Makers::full, Makers.NO_ARGUMENT, x -> x.addPart(-1));
        c.refused("weigh, part and weight", Makers::busy, Makers.NO_INDEX, x -> x.weigh(3, 0, 10));
        c.refused("weigh, load and weight", Makers::busy, Makers.NO_INDEX, x -> x.weigh(0, 6, -1));
        c.refused("weigh, load, of one load", Makers::oneLoad, Makers.NO_INDEX,
                x -> x.weigh(1, 6, 0));
        c.refused("tilt, part and weight", Makers::busy, Makers.NO_INDEX, x -> x.tilt(3, 0, 100));
        c.refused("tilt, load and weight", Makers::busy, Makers.NO_INDEX, x -> x.tilt(0, -1, 0));
        c.refused("tilt, weight 100 and no weight", Makers::busy, Makers.NO_ARGUMENT,
                x -> x.tilt(1, 1, 100));
        c.refused("tilt, weight 0 and no weight", Makers::busy, Makers.NO_ARGUMENT,
                x -> x.tilt(1, 1, 0));
        c.refused("draw, both", Makers::mostSamples, Makers.NO_ARGUMENT, x -> x.draw(65));
        c.refused("draw, both, by far", Makers::mostSamples, Makers.NO_ARGUMENT,
                x -> x.draw(Integer.MAX_VALUE));
        c.refused("append, both", () -> Makers.typed("x".repeat(60)), Makers.NO_ARGUMENT,
                x -> x.append(127));
        c.refused("addAll, both", () -> Makers.fullWith("1;"), Makers.NO_ARGUMENT,
                RareFaults::addAll);
        c.refused("addAll, both, of no text", Makers::full, Makers.NO_ARGUMENT, RareFaults::addAll);
        c.refused("addAll, both, of many parts", () -> Makers.typed("1;1;1;1;1;1;1;0"),
                Makers.NO_ARGUMENT, RareFaults::addAll);
        c.refused("part, both", Makers::busy, Makers.NO_INDEX, x -> x.part(3, 7));
        c.refused("part, both, below", Makers::busy, Makers.NO_INDEX, x -> x.part(-1, -1));
    }

    private void nothingToReturn() {
        c.due("NONE", -1, RareFaults.NONE);
        c.due("slightest without parts", RareFaults.NONE, new RareFaults().slightest());
        c.due("the latest row without samples", RareFaults.NONE, Checks.plantOf("1").part(0, 6));
        c.due("the likeliest of no faults", RareFaults.NONE, Checks.plantOf("1").likeliest(0));
    }
}
