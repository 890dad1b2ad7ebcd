import java.math.BigInteger;

/** Objects in states at the edges, the same ones each time. */
final class Makers {
    static final Class<IndexOutOfBoundsException> NO_INDEX = IndexOutOfBoundsException.class;
    static final Class<IllegalArgumentException> NO_ARGUMENT = IllegalArgumentException.class;
    static final Class<IllegalStateException> NO_STATE = IllegalStateException.class;
    static final String MOST = "999999;999999;999999;999999;999999;999999";
    static final String SIX_PARTS = "123456;21;0304;5;000007;98";

    private static final BigInteger SEEDS = BigInteger.valueOf(2147483648L);
    private static final BigInteger FACTOR = BigInteger.valueOf(1103515245L);
    private static final long STEP = 12345L;

    private Makers() {
    }

    /** Three parts, samples, an incomplete text, and as many saved states as there can be. */
    static RareFaults busy() {
        RareFaults x = Checks.plantOf("12;305;0007");
        x.tiltAll(2);
        x.limit(4);
        x.tilt(0, 0, 7);
        x.seed(99);
        x.draw(20);
        x.draw(5);
        Checks.type(x, "1;x");
        return x;
    }

    /** Six parts, and samples. */
    static RareFaults full() {
        RareFaults x = Checks.plantOf(SIX_PARTS);
        x.draw(3);
        return x;
    }

    static RareFaults fullWith(String typed) {
        RareFaults x = full();
        Checks.type(x, typed);
        return x;
    }

    static RareFaults typed(String text) {
        RareFaults x = new RareFaults();
        Checks.type(x, text);
        return x;
    }

    static RareFaults partsAndTyped(String parts, String typed) {
        RareFaults x = Checks.plantOf(parts);
        Checks.type(x, typed);
        return x;
    }

    static RareFaults oneLoad() {
        return Checks.plantOf("11;003");
    }

    /** One part with six loads, each of which can be weighed and tilted. */
    static RareFaults sixLoads() {
        return Checks.plantOf("111111");
    }

    /** As many samples as there can be, less some. */
    static RareFaults samplesLess(int less) {
        RareFaults x = Checks.plantOf("11");
        int left = 9999 - less;
        while (left > 0) {
            int many = Math.min(left, 64);
            x.draw(many);
            left -= many;
        }
        return x;
    }

    static RareFaults mostSamples() {
        return samplesLess(0);
    }

    /** The seed before this one: the rule for the next seed, backwards. */
    static int seedBefore(long next) {
        return BigInteger.valueOf(next - STEP).multiply(FACTOR.modInverse(SEEDS)).mod(SEEDS)
                .intValueExact();
    }

    /** The seed after this one. */
    static int seedAfter(long seed) {
        return BigInteger.valueOf(seed).multiply(FACTOR).add(BigInteger.valueOf(STEP)).mod(SEEDS)
                .intValueExact();
    }

    static double[] measures(RareFaults x) {
        double[] measures = new double[7];
        for (int what = 0; what <= 6; what++) {
            measures[what] = x.measure(what);
        }
        return measures;
    }
}
