/** Promises 11 to 15, sentence by sentence: the buffer, its syntax, and undo. */
final class TextsEdges {
    private static final String FULL = "1".repeat(60);

    private final Checks c;

    private TextsEdges(Checks checks) {
        c = checks;
    }

    static void hold(Checks checks, Sentences s) {
        TextsEdges t = new TextsEdges(checks);
        s.in("Promise 11: append");
        s.hold("Appends a character to the buffer", t::appends);
        s.hold("the character code, 33 to 126", t::appendRange);
        s.hold("Returns the new length of the buffer", t::appendReturns);
        s.hold("Throws `IllegalArgumentException` if code is not 33 to 126", t::appendOutOfRange);
        s.hold("Throws `IllegalStateException` if the buffer has 60 characters", t::appendTo60);
        s.in("Promise 12: clearBuffer");
        s.hold("Clears the buffer", t::clears);
        s.hold("Returns the length that it had", t::clearReturns);
        s.in("Promise 13: firstError");
        s.hold("Finds the first syntax error of the buffer", t::findsTheFirst);
        s.hold("Returns the index of the first character that is a syntax error", t::indexOfError);
        s.hold("the length of the buffer if there is none", t::lengthWithoutError);
        t.holdAddAllAndUndo(s);
    }

    private void holdAddAllAndUndo(Sentences s) {
        s.in("Promise 14: addAll");
        s.hold("Adds the parts in the buffer, all or none", this::allOrNone);
        s.hold("and clears the buffer", this::addAllClears);
        s.hold("Undoable, as one call", this::addAllUndoneAtOnce);
        s.hold("Returns how many parts there are then", this::addAllReturns);
        s.hold("Throws `IllegalArgumentException` if the buffer is not complete parts as a text",
                this::addAllOfIncomplete);
        s.hold("Throws `IllegalStateException` if there would be more than 6", this::addAllTo6);
        s.in("Promise 15: undo");
        s.hold("Restores the latest saved state", this::restoresTheLatest);
        s.hold("and drops it", this::dropsIt);
        s.hold("Returns how many saved states are left", this::undoReturns);
        s.hold("Throws `IllegalStateException` if there is none", this::undoOfNone);
    }

    // ---- promise 11

    private void appends() {
        RareFaults x = new RareFaults();
        StringBuilder typed = new StringBuilder();
        for (int code = 33; code <= 92; code++) {
            x.append(code);
            typed.append((char) code);
            c.due("the buffer with " + code, Digests.of(x, typed.toString()), x.digest());
        }
        c.due("append is not undoable", 0, x.count(8));
    }

    private void appendRange() {
        RareFaults x = new RareFaults();
        c.due("append(33)", 1, x.append(33));
        c.due("append(126)", 2, x.append(126));
        c.due("both are kept", Digests.of(x, "!~"), x.digest());
    }

    private void appendReturns() {
        RareFaults x = new RareFaults();
        for (int length = 1; length <= 60; length++) {
            c.due("append", length, x.append('5'));
        }
        x.clearBuffer();
        c.due("append after clearBuffer", 1, x.append('5'));
        x.addAll();
        c.due("append after addAll", 1, x.append('5'));
    }

    private void appendOutOfRange() {
        c.range("append", 33, 126, Makers.NO_ARGUMENT, Makers::busy, RareFaults::append);
        c.refused("append of a tab", Makers::busy, Makers.NO_ARGUMENT, x -> x.append(9));
        c.refused("append of 256 + '1'", Makers::busy, Makers.NO_ARGUMENT, x -> x.append(305));
        c.refused("append of 65536 + '1'", Makers::busy, Makers.NO_ARGUMENT, x -> x.append(65585));
    }

    private void appendTo60() {
        for (int code : new int[] {33, 49, 126}) {
            c.refused("append to 60", () -> Makers.typed(FULL), Makers.NO_STATE,
                    x -> x.append(code));
        }
        c.due("append to 59", 60, Makers.typed(FULL.substring(1)).append('1'));
    }

    // ---- promise 12

    private void clears() {
        RareFaults x = Makers.busy();
        x.clearBuffer();
        c.due("the buffer is empty", Digests.of(x, ""), x.digest());
        c.due("firstError of it", 0, x.firstError());
        c.due("addAll of it", "IllegalArgumentException", Checks.outcome(x::addAll));
        c.due("parts stay", 3, x.count(0));
        c.due("clearBuffer is not undoable", 6, x.count(8));
    }

    private void clearReturns() {
        RareFaults x = new RareFaults();
        c.due("of a new object", 0, x.clearBuffer());
        x.append('!');
        c.due("of one character", 1, x.clearBuffer());
        Checks.type(x, FULL);
        c.due("of 60 characters", 60, x.clearBuffer());
        c.due("of a cleared buffer", 0, x.clearBuffer());
    }

    // ---- promise 13

    private void findsTheFirst() {
        c.due("of two errors", 2, Makers.typed("1;;2;x").firstError());
        c.due("of errors alone", 0, Makers.typed("xyz").firstError());
        c.due("of an error behind seven parts", 14, Makers.typed("1;1;1;1;1;1;1;;").firstError());
        c.looked("firstError", Makers::busy, RareFaults::firstError);
        c.due("firstError counts no saved state", 6, Makers.busy().count(8));
        RareFaults x = Makers.typed("1;;2");
        x.firstError();
        c.due("once more", 2, x.firstError());
    }

    private void indexOfError() {
        c.due("at the first character", 0, Makers.typed(";1").firstError());
        c.due("at the last of 60", 59, Makers.typed("1;".repeat(29) + "1x").firstError());
        c.due("in the middle", 30, Makers.typed("1;".repeat(15) + "x" + ";1".repeat(14))
                .firstError());
        c.due("at the last of two", 1, Makers.typed("0;").firstError());
    }

    private void lengthWithoutError() {
        c.due("of no text", 0, new RareFaults().firstError());
        c.due("of one digit", 1, Makers.typed("0").firstError());
        c.due("of an incomplete text", 2, Makers.typed("1;").firstError());
        c.due("of a complete text", 13, Makers.typed("100000;000001").firstError());
        c.due("of 60 characters", 60, Makers.typed("12345;".repeat(10)).firstError());
    }

    // ---- promise 14

    private void allOrNone() {
        RareFaults x = Checks.plantOf("1;2;3;4;5");
        Checks.type(x, "6;7");
        c.due("addAll of two to five", "IllegalStateException", Checks.outcome(x::addAll));
        c.due("none is added", 5, x.count(0));
        x.removePart(0);
        c.due("addAll of two to four", 6, x.addAll());
        c.due("the first of two", 6, x.weight(4, 0, false));
        c.due("the second of two", 7, x.weight(5, 0, false));
        RareFaults y = Makers.typed("8;9;0");
        c.due("addAll of an incomplete third", "IllegalArgumentException",
                Checks.outcome(y::addAll));
        c.due("none of three is added", 0, y.count(0));
    }

    private void addAllClears() {
        RareFaults x = Makers.typed("1;2");
        x.addAll();
        c.due("the buffer is empty", Digests.of(x, ""), x.digest());
        c.due("its length", 0, x.clearBuffer());
        c.due("addAll once more", "IllegalArgumentException", Checks.outcome(x::addAll));
        RareFaults full = Makers.fullWith("12");
        Checks.outcome(full::addAll);
        c.due("a refused addAll leaves it", 2, full.clearBuffer());
        RareFaults incomplete = Makers.typed("12;");
        Checks.outcome(incomplete::addAll);
        c.due("an addAll of an incomplete text leaves it", 3, incomplete.clearBuffer());
    }

    private void addAllUndoneAtOnce() {
        RareFaults x = Makers.typed("1;2;3;4;5;6");
        x.addAll();
        c.due("addAll of six saves one state", 1, x.count(8));
        c.due("undo of it", 0, x.undo());
        c.due("parts", 0, x.count(0));
        c.alike("as a new object", new RareFaults(), x);
    }

    private void addAllReturns() {
        c.due("one", 1, Makers.typed("000001").addAll());
        c.due("six", 6, Makers.typed(Makers.SIX_PARTS).addAll());
        RareFaults x = Checks.plantOf("1;2;3");
        Checks.type(x, "4");
        c.due("one behind three", 4, x.addAll());
        c.due("parts", 4, x.count(0));
    }

    private void addAllOfIncomplete() {
        String[] texts = {"", ";", "0", "00000", "000000", "1;", "1;0", "1;00000", ";1", "1;;1",
            "1234567", "1;1234567", "x", "1x", "x1", "1/", "1:", "1;1;1;1;1;1;1;", FULL,
            "1;".repeat(30)};
        for (String text : texts) {
            c.refused("addAll of " + text, () -> Makers.typed(text), Makers.NO_ARGUMENT,
                    RareFaults::addAll);
        }
    }

    private void addAllTo6() {
        for (int parts = 1; parts <= 5; parts++) {
            String those = "1" + ";1".repeat(parts - 1);
            String rest = "2" + ";2".repeat(5 - parts);
            c.due("addAll to six, from " + parts, 6, Makers.partsAndTyped(those, rest).addAll());
            c.refused("addAll to seven, from " + parts,
                    () -> Makers.partsAndTyped(those, rest + ";2"), Makers.NO_STATE,
                    RareFaults::addAll);
        }
        c.refused("addAll of seven", () -> Makers.typed("1;1;1;1;1;1;1"), Makers.NO_STATE,
                RareFaults::addAll);
        c.refused("addAll of 60 characters", () -> Makers.typed("1;".repeat(29) + "11"),
                Makers.NO_STATE, RareFaults::addAll);
        c.refused("addAll to six of one", () -> Makers.fullWith("1"), Makers.NO_STATE,
                RareFaults::addAll);
    }

    // ---- promise 15

    private void restoresTheLatest() {
        RareFaults x = new RareFaults();
        x.addPart(1);
        x.limit(3);
        x.limit(7);
        x.undo();
        c.due("the limit before the latest call", 3, x.count(1));
        x.limit(8);
        x.undo();
        c.due("the limit before the latest call, again", 3, x.count(1));
        x.undo();
        c.due("the first limit", 10, x.count(1));
        c.due("the part", 1, x.count(0));
    }

    private void dropsIt() {
        RareFaults x = new RareFaults();
        x.limit(1);
        x.limit(2);
        x.undo();
        x.undo();
        c.due("undo goes back further, not forth", 10, x.count(1));
        c.due("no state is left", 0, x.count(8));
        c.due("undo cannot be undone", "IllegalStateException", Checks.outcome(x::undo));
        for (int limit = 20; limit < 33; limit++) {
            x.limit(limit);
            x.limit(50);
            x.undo();
        }
        c.due("saved states after many, and an undo", 5, x.count(8));
        x.undo();
        c.due("the limit before the latest that stands", 31, x.count(1));
    }

    private void undoReturns() {
        RareFaults x = Makers.busy();
        for (int left = 5; left >= 0; left--) {
            c.due("undo", left, x.undo());
            c.due("saved states", left, x.count(8));
        }
    }

    private void undoOfNone() {
        c.refused("undo of a new object", RareFaults::new, Makers.NO_STATE, RareFaults::undo);
        c.refused("undo with a buffer alone", () -> Makers.typed("1;2"), Makers.NO_STATE,
                RareFaults::undo);
        RareFaults x = Makers.busy();
        for (int state = 0; state < 6; state++) {
            x.undo();
        }
        c.due("the seventh undo", "IllegalStateException", Checks.outcome(x::undo));
        x.seed(4);
        c.due("undo after another call", 0, x.undo());
        c.due("and no more", "IllegalStateException", Checks.outcome(x::undo));
    }
}
