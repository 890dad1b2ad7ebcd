/** Promises 8 to 10: the seed, drawing and forgetting. */
public final class SamplesTest {
    private static final Checks C = new Checks();
    private static final Class<IllegalArgumentException> NO_ARGUMENT = IllegalArgumentException.class;
    private static final Class<IllegalStateException> NO_STATE = IllegalStateException.class;

    public static void main(String[] args) {
        promise8Seed();
        promise9DrawOneRow();
        promise9DrawMany();
        promise9DrawWithoutParts();
        promise9DrawWrong();
        promise10Forget();
        promise10ForgottenSumsStartAnew();
        C.end();
    }

    private static void promise8Seed() {
        RareFaults x = Checks.plantOf("11");
        x.draw(3);
        int seed = x.count(2);
        C.due("seed(7)", seed, x.seed(7));
        C.due("samples stay", 3, x.count(3));
        C.due("seed(max)", 7, x.seed(Integer.MAX_VALUE));
        C.due("seed(0)", Integer.MAX_VALUE, x.seed(0));
        C.due("seed(0) again", 0, x.seed(0));
        C.due("seed is undoable", 6, x.count(8));
        C.dueThrow("seed(-1)", x, NO_ARGUMENT, () -> x.seed(-1));
        C.dueThrow("seed(min)", x, NO_ARGUMENT, () -> x.seed(Integer.MIN_VALUE));
        x.undo();
        x.undo();
        C.due("undo of seed", Integer.MAX_VALUE, x.count(2));
    }

    /** Seeds 1 and 0 draw these loads; computed by hand from the rule of the document. */
    private static void promise9DrawOneRow() {
        RareFaults x = Checks.plantOf("111111;040005");
        x.tilt(1, 1, 8);
        x.limit(0);
        long first = (1L * 1103515245L + 12345L) % 2147483648L;
        long second = (first * 1103515245L + 12345L) % 2147483648L;
        int load0 = (int) (first / 65536 % 6);
        int load1 = second / 65536 % 13 < 8 ? 1 : 5;
        C.due("draw(1)", 1, x.draw(1));
        C.due("the seed", second, x.count(2));
        C.due("the load of part 0", load0, x.part(0, 6));
        C.due("the load of part 1", load1, x.part(1, 6));
        double correction = 1.0 * 1 * 6 / 6 / 1;
        correction = load1 == 1 ? correction * 4 * 13 / 9 / 8 : correction * 5 * 13 / 9 / 5;
        C.due("the correction", correction, x.measure(5));
        x.limit(99);
        x.seed(0);
        C.due("draw(1) of no fault", 0, x.draw(1));
    }

    private static void promise9DrawMany() {
        RareFaults x = Checks.plantOf("531;135");
        RareFaults y = Checks.plantOf("531;135");
        x.limit(3);
        y.limit(3);
        x.tiltAll(1);
        y.tiltAll(1);
        int faults = 0;
        for (int row = 0; row < 20; row++) {
            faults += y.draw(1);
        }
        C.due("draw(20)", faults, x.draw(20));
        C.due("faults so far", faults, x.count(4));
        C.due("draw(64)", y.draw(60) + y.draw(4), x.draw(64));
        C.dueMeasures("as one by one", Makers.measures(y), x);
        C.due("draw is undoable as one call", 5, x.count(8));
        x.undo();
        C.due("undo of draw, samples", 20, x.count(3));
        C.due("undo of draw, faults", faults, x.count(4));
        x.undo();
        C.due("undo of draw, no samples", 0, x.count(3));
        C.due("undo of draw, the seed", 1, x.count(2));
        C.due("undo of draw, the latest row", -1, x.part(0, 6));
    }

    private static void promise9DrawWithoutParts() {
        RareFaults x = new RareFaults();
        C.due("draw(2) without parts", 0, x.draw(2));
        C.due("the seed stays", 1, x.count(2));
        C.due("its correction", 1.0, x.measure(5));
        x.limit(0);
        C.due("draw(3) without parts, limit 0", 3, x.draw(3));
        C.due("samples", 3, x.count(3));
        C.due("the effective number", 3.0, x.measure(4));
    }

    private static void promise9DrawWrong() {
        RareFaults x = Checks.plantOf("1");
        C.dueThrow("draw(0)", x, NO_ARGUMENT, () -> x.draw(0));
        C.dueThrow("draw(65)", x, NO_ARGUMENT, () -> x.draw(65));
        C.dueThrow("draw(max)", x, NO_ARGUMENT, () -> x.draw(Integer.MAX_VALUE));
        for (int i = 0; i < 156; i++) {
            x.draw(64);
        }
        C.due("samples", 9984, x.count(3));
        C.dueThrow("draw(16) to 10000", x, NO_STATE, () -> x.draw(16));
        C.dueThrow("draw(65) to 10049", x, NO_ARGUMENT, () -> x.draw(65));
        C.due("draw(15) to 9999", 0, x.draw(15));
        C.due("9999 samples", 9999, x.count(3));
        C.dueThrow("draw(1) to 10000", x, NO_STATE, () -> x.draw(1));
        C.dueThrow("draw(0) at 9999", x, NO_ARGUMENT, () -> x.draw(0));
        C.due("forget", 9999, x.forget());
        C.due("draw(1) after forget", 0, x.draw(1));
    }

    private static void promise10ForgottenSumsStartAnew() {
        RareFaults x = Checks.plantOf("00031;00002");
        RareFaults y = Checks.plantOf("00031;00002");
        x.limit(7);
        y.limit(7);
        x.tilt(0, 4, 9);
        y.tilt(0, 4, 9);
        x.draw(13);
        C.due("loads of the latest row", true, x.part(0, 6) >= 3 && x.part(1, 6) == 4);
        int load = x.part(0, 6);
        double[] before = Makers.measures(x);
        x.forget();
        y.seed(x.count(2));
        x.draw(10);
        y.draw(10);
        C.dueMeasures("after forget as anew", Makers.measures(y), x);
        x.undo();
        x.undo();
        C.dueMeasures("after undo as before", before, x);
        C.due("after undo as before, load of part 0", load, x.part(0, 6));
        C.due("after undo as before, load of part 1", 4, x.part(1, 6));
    }

    private static void promise10Forget() {
        RareFaults x = Checks.plantOf("11;11");
        C.due("forget without samples", 0, x.forget());
        C.due("forget saves, also if nothing changes", 2, x.count(8));
        x.limit(0);
        x.draw(9);
        int seed = x.count(2);
        int load = x.part(1, 6);
        C.due("forget", 9, x.forget());
        C.due("no samples", 0, x.count(3));
        C.due("no faults", 0, x.count(4));
        C.due("the seed stays", seed, x.count(2));
        C.due("no latest row", -1, x.part(1, 6));
        for (int what = 1; what <= 5; what++) {
            C.due("no samples, measure(" + what + ")", 0.0, x.measure(what));
        }
        C.due("forget is undoable", 5, x.count(8));
        x.undo();
        C.due("undo of forget", 9, x.count(3));
        C.due("undo of forget, the latest row", load, x.part(1, 6));
    }
}
