import java.math.BigInteger;
import java.util.ArrayList;
import java.util.List;

/** The digest by its definition, from the answers of the other calls. */
final class Digests {
    private static final BigInteger FIRST = BigInteger.valueOf(2657);
    private static final BigInteger FACTOR = BigInteger.valueOf(31);

    private Digests() {
    }

    /** The digest of an object with this text in its buffer, which has no look of its own. */
    static long of(RareFaults x, String typed) {
        return hash(values(x, typed));
    }

    /** The hash, without any overflow until its end: long arithmetic keeps the lowest 64 bits. */
    static long hash(List<Long> values) {
        BigInteger hash = FIRST;
        for (long value : values) {
            hash = FACTOR.multiply(hash).add(BigInteger.valueOf(value));
        }
        return hash.longValue();
    }

    private static List<Long> values(RareFaults x, String typed) {
        List<Long> values = new ArrayList<>();
        for (int what = 0; what <= 8; what++) {
            values.add((long) x.count(what));
        }
        for (int part = 0; part < x.count(0); part++) {
            addPart(values, x, part);
        }
        for (int sum = 0; sum <= 10; sum += 5) {
            values.add(x.ways(sum, false));
            values.add(x.ways(sum, true));
        }
        for (int what = 0; what <= 6; what++) {
            values.add(Double.doubleToLongBits(x.measure(what)));
        }
        values.add(Double.doubleToLongBits(x.ifLimit(5)));
        values.add(Double.doubleToLongBits(x.greatest(true)));
        values.add((long) x.limitFor(100));
        values.add((long) x.slightest());
        values.add((long) typed.length());
        typed.chars().forEach(code -> values.add((long) code));
        return values;
    }

    private static void addPart(List<Long> values, RareFaults x, int part) {
        for (int what = 0; what <= 6; what++) {
            values.add((long) x.part(part, what));
        }
        for (int load = 0; load < 12; load++) {
            values.add((long) x.weight(part, load % 6, load >= 6));
        }
        values.add((long) x.likeliest(part));
    }
}
