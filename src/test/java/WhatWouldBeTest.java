/** Promises 22 to 26: what would be, and the digest. */
public final class WhatWouldBeTest {
    private static final Checks C = new Checks();
    private static final Class<IllegalArgumentException> NO_ARGUMENT = IllegalArgumentException.class;

    public static void main(String[] args) {
        promise22IfLimit();
        promise23LimitFor();
        promise24Greatest();
        promise25Slightest();
        promise26Digest();
        promise26DigestOfPowersOfTwo();
        promise26DigestTellsStatesApart();
        C.end();
    }

    private static void promise22IfLimit() {
        RareFaults x = Checks.plantOf("12;305");
        C.due("ifLimit(0)", 1.0, x.ifLimit(0));
        C.due("ifLimit(1)", 21.0 / 24.0, x.ifLimit(1));
        C.due("ifLimit(3)", 10.0 / 24.0, x.ifLimit(3));
        C.due("ifLimit(4)", 0.0, x.ifLimit(4));
        C.due("ifLimit(99)", 0.0, x.ifLimit(99));
        C.due("the limit stays", 10, x.count(1));
        C.dueThrow("ifLimit(-1)", x, NO_ARGUMENT, () -> x.ifLimit(-1));
        C.dueThrow("ifLimit(100)", x, NO_ARGUMENT, () -> x.ifLimit(100));
        RareFaults empty = new RareFaults();
        C.due("ifLimit(0) without parts", 1.0, empty.ifLimit(0));
        C.due("ifLimit(1) without parts", 0.0, empty.ifLimit(1));
    }

    private static void promise23LimitFor() {
        // of 8 ways: 8 from 0, 7 from 1, 4 from 2, 1 from 3
        RareFaults x = Checks.plantOf("11;11;11");
        int[] wants = {0, 4, 124, 4, 125, 3, 499, 3, 500, 2, 874, 2, 875, 1, 999, 1, 1000, 0};
        for (int i = 0; i < wants.length; i += 2) {
            C.due("limitFor(" + wants[i] + ")", wants[i + 1], x.limitFor(wants[i]));
        }
        C.dueThrow("limitFor(-1)", x, NO_ARGUMENT, () -> x.limitFor(-1));
        C.dueThrow("limitFor(1001)", x, NO_ARGUMENT, () -> x.limitFor(1001));
        RareFaults most = Checks.plantOf("000009;000009;000009;000009;000009;000009");
        C.due("limitFor(999), all at 30", 31, most.limitFor(999));
        C.due("limitFor(0), all at 30", 31, most.limitFor(0));
        C.due("limitFor(1000), all at 30", 0, most.limitFor(1000));
        RareFaults wide = Checks.plantOf("999999;999999;999999;999999;999999;999999");
        C.due("limitFor(0) of many ways", 31, wide.limitFor(0));
        C.due("limitFor(1000) of many ways", 0, wide.limitFor(1000));
    }

    private static void promise24Greatest() {
        RareFaults x = Checks.plantOf("31;0104");
        x.tilt(0, 1, 9);
        x.tilt(1, 1, 20);
        x.limit(4);
        double low = 1.0 * 3 * 12 / 4 / 3;
        double high = 1.0 * 1 * 12 / 4 / 9;
        C.due("greatest(false)", low * 4 * 24 / 5 / 4, x.greatest(false));
        C.due("greatest(true)", high * 4 * 24 / 5 / 4, x.greatest(true));
        x.limit(3);
        C.due("greatest(true), limit 3", low * 4 * 24 / 5 / 4, x.greatest(true));
        x.limit(5);
        C.due("greatest(true) of no fault", 0.0, x.greatest(true));
        C.due("greatest(false) of no fault", low * 4 * 24 / 5 / 4, x.greatest(false));
        RareFaults top = Checks.plantOf("900001;000001;000001;000001;000001;000001");
        top.limit(30);
        C.due("greatest(true) from 30", 1.0 * 1 * 10 / 10 / 1, top.greatest(true));
        top.tilt(0, 5, 20);
        C.due("greatest(true) from 30, tilted", 1.0 * 1 * 29 / 10 / 20, top.greatest(true));
        RareFaults empty = new RareFaults();
        C.due("greatest(false) without parts", 1.0, empty.greatest(false));
        C.due("greatest(true) without parts", 0.0, empty.greatest(true));
        empty.limit(0);
        C.due("greatest(true) without parts, limit 0", 1.0, empty.greatest(true));
    }

    private static void promise25Slightest() {
        RareFaults x = Checks.plantOf("11;91;19");
        x.limit(2);
        C.due("slightest", 1, x.slightest());
        x.limit(0);
        C.due("slightest of several", 0, x.slightest());
        x.limit(30);
        C.due("slightest of none", 0, x.slightest());
        RareFaults last = Checks.plantOf("01;001;1");
        last.limit(3);
        C.due("slightest, the last", 2, last.slightest());
        RareFaults one = Checks.plantOf("11");
        C.due("slightest of one", 0, one.slightest());
        C.due("slightest without parts", -1, new RareFaults().slightest());
    }

    private static void promise26Digest() {
        RareFaults x = Checks.plantOf("12;0345;6789;000001;9");
        same(new RareFaults(), "");
        same(x, "");
        x.tiltAll(4);
        x.limit(5);
        same(x, "");
        for (int i = 0; i < 40; i++) {
            x.draw(3);
            same(x, "");
        }
        Checks.type(x, "12;~!");
        same(x, "12;~!");
        x.undo();
        same(x, "12;~!");
    }

    /** Shares and effective numbers that are powers of 2, at the seam of two exponents. */
    private static void promise26DigestOfPowersOfTwo() {
        RareFaults x = new RareFaults();
        for (int samples = 1; samples <= 64; samples++) {
            x.draw(1);
            same(x, "");
        }
        RareFaults y = Checks.plantOf("11;11");
        y.limit(1);
        for (int samples = 1; samples <= 64; samples++) {
            y.draw(1);
            same(y, "");
        }
    }

    private static void same(RareFaults x, String typed) {
        C.due("digest", Digests.of(x, typed), x.digest());
    }

    private static void promise26DigestTellsStatesApart() {
        RareFaults x = Checks.plantOf("1");
        RareFaults y = Checks.plantOf("1");
        C.due("digests of the same calls", x.digest(), y.digest());
        x.append('a');
        y.append('b');
        C.due("digests of other buffers differ", false, x.digest() == y.digest());
        y.clearBuffer();
        y.append('a');
        C.due("digests of the same buffers", x.digest(), y.digest());
        x.seed(2);
        y.seed(3);
        C.due("digests of other seeds differ", false, x.digest() == y.digest());
    }
}
