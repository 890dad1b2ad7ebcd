/** Promises 11 to 15: the buffer, its syntax, and undo. */
public final class TextsTest {
    private static final Checks C = new Checks();
    private static final Class<IllegalArgumentException> NO_ARGUMENT = IllegalArgumentException.class;
    private static final Class<IllegalStateException> NO_STATE = IllegalStateException.class;
    private static final String SIXTY = "123456;654321;102030;405060;000001;100000;7;8;9;111111;22222";

    public static void main(String[] args) {
        promise11Append();
        promise12ClearBuffer();
        promise13FirstError();
        promise14AddAll();
        promise14AddAllWrong();
        promise15Undo();
        promise15UndoKeepsSixStates();
        C.end();
    }

    private static void promise11Append() {
        RareFaults x = new RareFaults();
        C.due("append(33)", 1, x.append(33));
        C.due("append(126)", 2, x.append(126));
        C.dueThrow("append(32)", x, NO_ARGUMENT, () -> x.append(32));
        C.dueThrow("append(127)", x, NO_ARGUMENT, () -> x.append(127));
        C.dueThrow("append(-1)", x, NO_ARGUMENT, () -> x.append(-1));
        C.dueThrow("append(max)", x, NO_ARGUMENT, () -> x.append(Integer.MAX_VALUE));
        for (int length = 3; length <= 60; length++) {
            C.due("append('1')", length, x.append('1'));
        }
        C.dueThrow("append(49), full", x, NO_STATE, () -> x.append(49));
        C.dueThrow("append(32), full", x, NO_ARGUMENT, () -> x.append(32));
        C.due("append is not undoable", 0, x.count(8));
        C.due("the length", 60, x.clearBuffer());
    }

    private static void promise12ClearBuffer() {
        RareFaults x = new RareFaults();
        Checks.type(x, "12;");
        C.due("clearBuffer", 3, x.clearBuffer());
        C.due("clearBuffer again", 0, x.clearBuffer());
        C.due("clearBuffer is not undoable", 0, x.count(8));
        C.due("append starts anew", 1, x.append('5'));
        C.due("firstError starts anew", 1, x.firstError());
        x.addAll();
        C.due("the parts of the new text", 5, x.weight(0, 0, false));
    }

    private static void promise13FirstError() {
        C.due("60 characters", 60, SIXTY.length());
        int[] wants = {
            error(""), 0, error("1"), 1, error("0"), 1, error("00000"), 5, error("000001"), 6,
            error("000000"), 5, error("1;"), 2, error(";"), 0, error("0;"), 1, error("00;1"), 2,
            error("123456"), 6, error("1234567"), 6, error("1;;2"), 2, error("1;0;"), 3,
            error("1;000000"), 7, error("1;1234567"), 8, error("a"), 0, error("1a"), 1,
            error("1/"), 1, error("1:"), 1, error("1;!"), 2, error("12,3"), 2, error("1~2a"), 1,
            error("1;1;1;1;1;1;1"), 13, error(SIXTY), 60, error("0000001"), 5,
            error("000001;00001;0001;"), 18, error("100000;000000"), 12, error("10000000"), 6,
        };
        for (int i = 0; i < wants.length; i += 2) {
            C.due("firstError of text " + i / 2, wants[i + 1], wants[i]);
        }
        RareFaults x = Checks.plantOf("1");
        Checks.type(x, "1?");
        long before = x.digest();
        x.firstError();
        C.due("firstError changes nothing", before, x.digest());
    }

    private static int error(String text) {
        RareFaults x = new RareFaults();
        Checks.type(x, text);
        return x.firstError();
    }

    private static void promise14AddAll() {
        RareFaults x = new RareFaults();
        x.addPart(2);
        Checks.type(x, "90;000005");
        C.due("addAll", 3, x.addAll());
        C.due("the buffer is empty", 0, x.clearBuffer());
        int[] first = {9, 0, 0, 0, 0, 0};
        int[] second = {0, 0, 0, 0, 0, 5};
        for (int load = 0; load <= 5; load++) {
            C.due("the first part", first[load], x.weight(1, load, false));
            C.due("the first part, tilted", first[load], x.weight(1, load, true));
            C.due("the second part", second[load], x.weight(2, load, false));
            C.due("the second part, tilted", second[load], x.weight(2, load, true));
        }
        C.due("addAll is undoable as one call", 2, x.count(8));
        Checks.type(x, "1;2;3");
        C.due("addAll up to 6", 6, x.addAll());
        C.due("the last part", 3, x.weight(5, 0, false));
        Checks.type(x, "7");
        C.due("undo of addAll", 2, x.undo());
        C.due("undo of addAll, parts", 3, x.count(0));
        C.due("undo of addAll leaves the buffer", 1, x.clearBuffer());
    }

    private static void promise14AddAllWrong() {
        String[] incomplete = {"", "1;", "0", "00000", "1;0", ";1", "1;;1", "a", "1a", "1234567",
            "000000", "000000;1", "1;1;1;1;1;1;1;", "1;1;1;1;1;1;1;0", "1;1;1;1;1;1;1;x"};
        for (String text : incomplete) {
            RareFaults x = new RareFaults();
            x.addPart(0);
            Checks.type(x, text);
            C.dueThrow("addAll of " + text, x, NO_ARGUMENT, x::addAll);
            C.due("the buffer stays", text.length(), x.clearBuffer());
        }
        RareFaults x = new RareFaults();
        x.addPart(0);
        Checks.type(x, "1;1;1;1;1;1");
        C.dueThrow("addAll of 7 parts", x, NO_STATE, x::addAll);
        C.due("none is added", 1, x.count(0));
        x.removePart(0);
        C.due("addAll of 6 parts", 6, x.addAll());
        Checks.type(x, "1");
        C.dueThrow("addAll, full", x, NO_STATE, x::addAll);
        x.append(';');
        C.dueThrow("addAll, full, incomplete", x, NO_ARGUMENT, x::addAll);
        RareFaults many = new RareFaults();
        Checks.type(many, SIXTY);
        C.dueThrow("addAll of 60 characters", many, NO_STATE, many::addAll);
    }

    private static void promise15Undo() {
        RareFaults x = new RareFaults();
        C.dueThrow("undo of nothing", x, NO_STATE, x::undo);
        x.addPart(1);
        x.seed(5);
        x.draw(2);
        C.due("undo of draw", 2, x.undo());
        C.due("the seed is back", 5, x.count(2));
        C.due("undo of seed", 1, x.undo());
        C.due("the seed is back again", 1, x.count(2));
        C.due("undo is not undoable", 1, x.count(8));
        C.due("undo of addPart", 0, x.undo());
        C.due("no parts", 0, x.count(0));
        C.dueThrow("undo of nothing more", x, NO_STATE, x::undo);
        C.due("addPart after undo", 0, x.addPart(3));
        C.due("undo again", 0, x.undo());
    }

    private static void promise15UndoKeepsSixStates() {
        RareFaults x = new RareFaults();
        for (int limit = 20; limit < 40; limit++) {
            x.limit(limit);
            C.due("saved states", Math.min(limit - 19, 6), x.count(8));
        }
        Checks.type(x, "12");
        for (int left = 5; left >= 0; left--) {
            C.due("undo", left, x.undo());
            C.due("the limit is back", 33 + left, x.count(1));
        }
        C.dueThrow("undo of a dropped state", x, NO_STATE, x::undo);
        C.due("undo leaves the buffer", 2, x.clearBuffer());
        x.limit(50);
        x.limit(51);
        C.due("undo after all", 1, x.undo());
        C.due("the limit after all", 50, x.count(1));
        for (int limit = 60; limit < 67; limit++) {
            x.limit(limit);
        }
        for (int left = 5; left >= 0; left--) {
            C.due("undo once more", left, x.undo());
        }
        C.due("the oldest limit that is kept", 60, x.count(1));
    }
}
