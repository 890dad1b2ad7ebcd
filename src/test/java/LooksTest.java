/** Promises 16 to 21: the looks, which change nothing. */
public final class LooksTest {
    private static final Checks C = new Checks();
    private static final Class<IndexOutOfBoundsException> NO_INDEX = IndexOutOfBoundsException.class;
    private static final Class<IllegalArgumentException> NO_ARGUMENT = IllegalArgumentException.class;

    public static void main(String[] args) {
        promise16Part();
        promise17Weight();
        promise18Ways();
        promise19Likeliest();
        promise20Count();
        promise21Measure();
        looksChangeNothing();
        C.end();
    }

    private static void promise16Part() {
        RareFaults x = Checks.plantOf("9;02030;000001");
        x.tilt(1, 1, 50);
        int[][] wants = {{9, 9, 0, 0, 0, 0, -1}, {5, 53, 1, 3, 11, 59, -1}, {1, 1, 5, 5, 5, 5, -1}};
        for (int part = 0; part < 3; part++) {
            for (int what = 0; what <= 6; what++) {
                C.due("part(" + part + ", " + what + ")", wants[part][what], x.part(part, what));
            }
        }
        x.draw(1);
        C.due("the latest load of part 0", 0, x.part(0, 6));
        C.due("the latest load of part 2", 5, x.part(2, 6));
        C.dueThrow("part(0, 7)", x, NO_ARGUMENT, () -> x.part(0, 7));
        C.dueThrow("part(0, -1)", x, NO_ARGUMENT, () -> x.part(0, -1));
        C.dueThrow("part(3, 0)", x, NO_INDEX, () -> x.part(3, 0));
        C.dueThrow("part(-1, 0)", x, NO_INDEX, () -> x.part(-1, 0));
        C.dueThrow("part(3, 7)", x, NO_INDEX, () -> x.part(3, 7));
        C.dueThrow("part(min, min)", x, NO_INDEX,
                () -> x.part(Integer.MIN_VALUE, Integer.MIN_VALUE));
    }

    private static void promise17Weight() {
        RareFaults x = Checks.plantOf("9;02030");
        x.tilt(1, 3, 40);
        C.due("weight", 3, x.weight(1, 3, false));
        C.due("tilted weight", 40, x.weight(1, 3, true));
        C.due("weight that is not told", 0, x.weight(0, 5, false));
        C.due("tilted weight that is not told", 0, x.weight(0, 5, true));
        C.dueThrow("weight of part 2", x, NO_INDEX, () -> x.weight(2, 0, true));
        C.dueThrow("weight of part -1", x, NO_INDEX, () -> x.weight(-1, 0, false));
        C.dueThrow("weight of load 6", x, NO_INDEX, () -> x.weight(0, 6, true));
        C.dueThrow("weight of load -1", x, NO_INDEX, () -> x.weight(1, -1, false));
    }

    private static void promise18Ways() {
        RareFaults x = Checks.plantOf("12;305");
        long[] wants = {3, 6, 5, 10, 0};
        long above = 24;
        for (int sum = 0; sum < wants.length; sum++) {
            C.due("ways(" + sum + ", false)", wants[sum], x.ways(sum, false));
            C.due("ways(" + sum + ", true)", above, x.ways(sum, true));
            above -= wants[sum];
        }
        C.due("ways(99, false)", 0, x.ways(99, false));
        C.due("ways(99, true)", 0, x.ways(99, true));
        C.dueThrow("ways(-1, true)", x, NO_ARGUMENT, () -> x.ways(-1, true));
        C.dueThrow("ways(100, false)", x, NO_ARGUMENT, () -> x.ways(100, false));
        RareFaults most = Checks.plantOf("999999;999999;999999;999999;999999;999999");
        C.due("all ways", 54L * 54 * 54 * 54 * 54 * 54, most.ways(0, true));
        C.due("ways(30, false)", 9 * 9 * 9 * 9 * 9 * 9, most.ways(30, false));
        C.due("ways(31, true)", 0, most.ways(31, true));
        RareFaults empty = new RareFaults();
        C.due("ways(0, false) without parts", 1, empty.ways(0, false));
        C.due("ways(0, true) without parts", 1, empty.ways(0, true));
        C.due("ways(1, true) without parts", 0, empty.ways(1, true));
    }

    private static void promise19Likeliest() {
        RareFaults x = Checks.plantOf("93;8205;1");
        dueRow(x, 0, 0, 0, 0);
        dueRow(x, 1, 0, 3, 0);
        dueRow(x, 3, 0, 3, 0);
        dueRow(x, 4, 1, 3, 0);
        dueRow(x, 5, -1, -1, -1);
        RareFaults even = Checks.plantOf("111111;111111;111111");
        dueRow(even, 7, 0, 2, 5);
        dueRow(even, 15, 5, 5, 5);
        dueRow(even, 16, -1, -1, -1);
        dueRow(even, 31, -1, -1, -1);
        dueRow(even, 62, -1, -1, -1);
        dueRow(even, 99, -1, -1, -1);
        RareFaults ties = Checks.plantOf("24;42;11");
        dueRow(ties, 2, 1, 0, 1);
        dueRow(ties, 1, 1, 0, 0);
        C.dueThrow("likeliest(3)", ties, NO_INDEX, () -> ties.likeliest(3));
        C.dueThrow("likeliest(-1)", ties, NO_INDEX, () -> ties.likeliest(-1));
        RareFaults empty = new RareFaults();
        C.dueThrow("likeliest(0) without parts", empty, NO_INDEX, () -> empty.likeliest(0));
    }

    private static void dueRow(RareFaults x, int limit, int load0, int load1, int load2) {
        x.limit(limit);
        C.due("likeliest(0) from " + limit, load0, x.likeliest(0));
        C.due("likeliest(1) from " + limit, load1, x.likeliest(1));
        C.due("likeliest(2) from " + limit, load2, x.likeliest(2));
    }

    private static void promise20Count() {
        RareFaults x = Checks.plantOf("0230;00007");
        x.limit(6);
        x.seed(77);
        C.due("parts", 2, x.count(0));
        C.due("the limit", 6, x.count(1));
        C.due("the seed", 77, x.count(2));
        C.due("no samples", 0, x.count(3));
        C.due("the least sum", 5, x.count(5));
        C.due("the greatest sum", 6, x.count(6));
        C.due("the ways of the likeliest fault", 21, x.count(7));
        C.due("saved states", 3, x.count(8));
        int faults = x.draw(30);
        C.due("samples", 30, x.count(3));
        C.due("faults", faults, x.count(4));
        x.limit(7);
        C.due("the ways of no fault", 0, x.count(7));
        x.limit(0);
        C.due("the ways of the likeliest row", 21, x.count(7));
        C.dueThrow("count(9)", x, NO_ARGUMENT, () -> x.count(9));
        C.dueThrow("count(-1)", x, NO_ARGUMENT, () -> x.count(-1));
        RareFaults most = Checks.plantOf("900009;900009;900009;900009;900009;900009");
        most.limit(30);
        C.due("the most ways", 531441, most.count(7));
        most.limit(31);
        C.due("the ways of no fault from 31", 0, most.count(7));
        most.limit(62);
        C.due("the ways of no fault from 62", 0, most.count(7));
        RareFaults empty = new RareFaults();
        empty.limit(0);
        C.due("the ways of the row without loads", 1, empty.count(7));
    }

    private static void promise21Measure() {
        RareFaults x = Checks.plantOf("311;122");
        x.limit(3);
        x.tiltAll(3);
        C.due("the odds", 6.0 / 25.0, x.measure(0));
        C.due("the estimate less the odds, without samples", 0.0 - 6.0 / 25.0, x.measure(6));
        double faultSum = 0.0;
        double sum = 0.0;
        double squares = 0.0;
        int faults = 0;
        for (int row = 1; row <= 50; row++) {
            boolean isFault = x.draw(1) == 1;
            double correction = 1.0;
            for (int part = 0; part < 2; part++) {
                int load = x.part(part, 6);
                correction = correction * x.weight(part, load, false);
                correction = correction * x.part(part, 1);
                correction = correction / x.part(part, 0);
                correction = correction / x.weight(part, load, true);
            }
            C.due("a fault", x.part(0, 6) + x.part(1, 6) >= 3, isFault);
            faults += isFault ? 1 : 0;
            faultSum += isFault ? correction : 0.0;
            sum += correction;
            squares += correction * correction;
            C.due("the estimate", faultSum / row, x.measure(1));
            C.due("the share", (double) faults / row, x.measure(2));
            C.due("the mean", sum / row, x.measure(3));
            C.due("the effective number", sum * sum / squares, x.measure(4));
            C.due("the latest correction", correction, x.measure(5));
            C.due("the estimate less the odds", faultSum / row - 6.0 / 25.0, x.measure(6));
        }
        RareFaults small = Checks.plantOf("19");
        small.tilt(0, 0, 99);
        small.draw(1);
        double low = 1.0 * 1 * 108 / 10 / 99;
        C.due("a small correction", low, small.measure(5));
        C.due("its effective number", low * low / (low * low), small.measure(4));
        C.dueThrow("measure(7)", x, NO_ARGUMENT, () -> x.measure(7));
        C.dueThrow("measure(-1)", x, NO_ARGUMENT, () -> x.measure(-1));
        RareFaults empty = new RareFaults();
        C.due("the odds without parts", 0.0, empty.measure(0));
        empty.limit(0);
        C.due("the odds without parts, limit 0", 1.0, empty.measure(0));
    }

    private static void looksChangeNothing() {
        RareFaults x = Checks.plantOf("12;345;6");
        x.limit(2);
        x.draw(7);
        x.append('x');
        long before = x.digest();
        x.part(1, 6);
        x.weight(0, 0, true);
        x.ways(3, true);
        x.likeliest(1);
        x.count(7);
        x.measure(6);
        x.ifLimit(1);
        x.limitFor(500);
        x.greatest(true);
        x.greatest(false);
        x.slightest();
        C.due("looks change nothing", before, x.digest());
        C.due("looks save nothing", 3, x.count(8));
    }
}
