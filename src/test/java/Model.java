import java.util.ArrayList;
import java.util.List;

/**
 * The document in its plainest form: rows are gone through one by one, states are copied whole.
 * It shares no idea with the class under test beyond the document.
 */
final class Model {
    /** A part: its weights and tilted weights. */
    private static final class Part {
        int[] weights = new int[6];
        int[] tilted = new int[6];

        Part copy() {
            Part part = new Part();
            part.weights = weights.clone();
            part.tilted = tilted.clone();
            return part;
        }
    }

    /** All that undo restores. */
    private static final class State {
        List<Part> parts = new ArrayList<>();
        int limit = 10;
        long seed = 1;
        List<int[]> rows = new ArrayList<>();
        List<Double> rowCorrections = new ArrayList<>();

        State copy() {
            State state = new State();
            for (Part part : parts) {
                state.parts.add(part.copy());
            }
            state.limit = limit;
            state.seed = seed;
            state.rows.addAll(rows);
            state.rowCorrections.addAll(rowCorrections);
            return state;
        }
    }

    private State now = new State();
    private final List<State> saved = new ArrayList<>();
    private String buffer = "";

    private void save() {
        saved.add(now.copy());
        if (saved.size() > 6) {
            saved.remove(0);
        }
    }

    private void forgetRows() {
        now.rows.clear();
        now.rowCorrections.clear();
    }

    private static void need(boolean isRight) {
        if (!isRight) {
            throw new IllegalArgumentException();
        }
    }

    private static void needState(boolean isRight) {
        if (!isRight) {
            throw new IllegalStateException();
        }
    }

    private void needIndex(int part, int load) {
        if (part < 0 || part >= now.parts.size() || load < 0 || load > 5) {
            throw new IndexOutOfBoundsException();
        }
    }

    private static int sum(int[] numbers) {
        int sum = 0;
        for (int number : numbers) {
            sum += number;
        }
        return sum;
    }

    int addPart(int greatest) {
        need(greatest >= 0 && greatest <= 5);
        needState(now.parts.size() < 6);
        save();
        forgetRows();
        Part part = new Part();
        for (int load = 0; load <= greatest; load++) {
            part.weights[load] = 1;
            part.tilted[load] = 1;
        }
        now.parts.add(part);
        return now.parts.size() - 1;
    }

    int removePart(int part) {
        needIndex(part, 0);
        save();
        forgetRows();
        now.parts.remove(part);
        return now.parts.size();
    }

    int weigh(int part, int load, int weight) {
        needIndex(part, load);
        need(weight >= 0 && weight <= 9);
        int[] then = now.parts.get(part).weights.clone();
        then[load] = weight;
        needState(sum(then) > 0);
        save();
        forgetRows();
        int previous = now.parts.get(part).weights[load];
        now.parts.get(part).weights = then;
        if (previous == 0 || weight == 0) {
            now.parts.get(part).tilted[load] = weight;
        }
        return previous;
    }

    int tilt(int part, int load, int weight) {
        needIndex(part, load);
        need(weight >= 1 && weight <= 99);
        needState(now.parts.get(part).weights[load] > 0);
        save();
        forgetRows();
        int previous = now.parts.get(part).tilted[load];
        now.parts.get(part).tilted[load] = weight;
        return previous;
    }

    int tiltAll(int by) {
        need(by >= 0 && by <= 9);
        save();
        forgetRows();
        int all = 0;
        for (Part part : now.parts) {
            for (int load = 0; load < 6; load++) {
                part.tilted[load] = Math.min(99, part.weights[load] * (1 + load * by));
                all += part.tilted[load];
            }
        }
        return all;
    }

    int limit(int limit) {
        need(limit >= 0 && limit <= 99);
        save();
        forgetRows();
        int previous = now.limit;
        now.limit = limit;
        return previous;
    }

    int seed(int seed) {
        need(seed >= 0);
        save();
        int previous = (int) now.seed;
        now.seed = seed;
        return previous;
    }

    int draw(int many) {
        need(many >= 1 && many <= 64);
        needState(now.rows.size() + many <= 9999);
        save();
        int faults = 0;
        for (int i = 0; i < many; i++) {
            int[] row = new int[now.parts.size()];
            for (int part = 0; part < row.length; part++) {
                now.seed = (now.seed * 1103515245L + 12345L) % 2147483648L;
                int[] tilted = now.parts.get(part).tilted;
                long number = now.seed / 65536 % sum(tilted);
                int upTo = tilted[0];
                while (upTo <= number) {
                    row[part]++;
                    upTo += tilted[row[part]];
                }
            }
            now.rows.add(row);
            now.rowCorrections.add(correction(row));
            faults += sum(row) >= now.limit ? 1 : 0;
        }
        return faults;
    }

    private double correction(int[] row) {
        double c = 1.0;
        for (int i = 0; i < row.length; i++) {
            Part part = now.parts.get(i);
            c = c * part.weights[row[i]];
            c = c * sum(part.tilted);
            c = c / sum(part.weights);
            c = c / part.tilted[row[i]];
        }
        return c;
    }

    int forget() {
        save();
        int number = now.rows.size();
        forgetRows();
        return number;
    }

    int append(int code) {
        need(code >= 33 && code <= 126);
        needState(buffer.length() < 60);
        buffer += (char) code;
        return buffer.length();
    }

    int clearBuffer() {
        int length = buffer.length();
        buffer = "";
        return length;
    }

    int firstError() {
        for (int length = 1; length <= buffer.length(); length++) {
            if (!begins(buffer.substring(0, length))) {
                return length - 1;
            }
        }
        return buffer.length();
    }

    /** Whether some parts as a text begin with this: then its last part can be ended by a digit. */
    private static boolean begins(String text) {
        return isParts(text) || isParts(text + "1") || isParts(text + "01")
                || isParts(text + "001") || isParts(text + "0001") || isParts(text + "00001");
    }

    private static boolean isParts(String text) {
        for (String part : text.split(";", -1)) {
            if (!part.matches("[0-9]{1,6}") || part.matches("0*")) {
                return false;
            }
        }
        return true;
    }

    int addAll() {
        need(isParts(buffer));
        String[] texts = buffer.split(";", -1);
        needState(now.parts.size() + texts.length <= 6);
        save();
        forgetRows();
        for (String text : texts) {
            Part part = new Part();
            for (int load = 0; load < text.length(); load++) {
                part.weights[load] = text.charAt(load) - '0';
            }
            part.tilted = part.weights.clone();
            now.parts.add(part);
        }
        buffer = "";
        return now.parts.size();
    }

    int undo() {
        needState(!saved.isEmpty());
        now = saved.remove(saved.size() - 1);
        return saved.size();
    }

    int part(int index, int what) {
        needIndex(index, 0);
        need(what >= 0 && what <= 6);
        Part part = now.parts.get(index);
        int least = NO_LOAD;
        int greatest = NO_LOAD;
        int moment = 0;
        int tiltedMoment = 0;
        for (int load = 0; load < 6; load++) {
            if (part.weights[load] > 0) {
                least = least == NO_LOAD ? load : least;
                greatest = load;
            }
            moment += load * part.weights[load];
            tiltedMoment += load * part.tilted[load];
        }
        int samples = now.rows.size();
        int latest = samples == 0 ? -1 : now.rows.get(samples - 1)[index];
        return new int[] {sum(part.weights), sum(part.tilted), least, greatest, moment,
            tiltedMoment, latest}[what];
    }

    private static final int NO_LOAD = -99;

    int weight(int part, int load, boolean isTilted) {
        needIndex(part, load);
        return isTilted ? now.parts.get(part).tilted[load] : now.parts.get(part).weights[load];
    }

    /** All rows that have a way, by ascending loads of the part 0, then of the part 1, and so on. */
    private List<int[]> rowsWithAWay() {
        List<int[]> rows = new ArrayList<>();
        rows.add(new int[0]);
        for (Part part : now.parts) {
            List<int[]> longer = new ArrayList<>();
            for (int[] row : rows) {
                for (int load = 0; load < 6; load++) {
                    if (part.weights[load] > 0) {
                        int[] next = java.util.Arrays.copyOf(row, row.length + 1);
                        next[row.length] = load;
                        longer.add(next);
                    }
                }
            }
            rows = longer;
        }
        return rows;
    }

    private long waysOf(int[] row) {
        long ways = 1;
        for (int part = 0; part < row.length; part++) {
            ways *= now.parts.get(part).weights[row[part]];
        }
        return ways;
    }

    private long faultWays(int limit) {
        long ways = 0;
        for (int[] row : rowsWithAWay()) {
            ways += sum(row) >= limit ? waysOf(row) : 0;
        }
        return ways;
    }

    private long allWays() {
        long ways = 1;
        for (Part part : now.parts) {
            ways *= sum(part.weights);
        }
        return ways;
    }

    long ways(int sum, boolean orAbove) {
        need(sum >= 0 && sum <= 99);
        return orAbove ? faultWays(sum) : faultWays(sum) - faultWays(sum + 1);
    }

    private int[] likeliestRow() {
        int[] likeliest = null;
        for (int[] row : rowsWithAWay()) {
            boolean isFault = sum(row) >= now.limit;
            if (isFault && (likeliest == null || waysOf(row) > waysOf(likeliest))) {
                likeliest = row;
            }
        }
        return likeliest;
    }

    int likeliest(int part) {
        needIndex(part, 0);
        int[] row = likeliestRow();
        return row == null ? -1 : row[part];
    }

    int count(int what) {
        need(what >= 0 && what <= 8);
        switch (what) {
            case 0:
                return now.parts.size();
            case 1:
                return now.limit;
            case 2:
                return (int) now.seed;
            case 3:
                return now.rows.size();
            case 4:
                return (int) now.rows.stream().filter(row -> sum(row) >= now.limit).count();
            case 5:
                return rowsWithAWay().stream().mapToInt(Model::sum).min().getAsInt();
            case 6:
                return rowsWithAWay().stream().mapToInt(Model::sum).max().getAsInt();
            case 7:
                int[] row = likeliestRow();
                return row == null ? 0 : (int) waysOf(row);
            default:
                return saved.size();
        }
    }

    double measure(int what) {
        need(what >= 0 && what <= 6);
        double faultSum = 0.0;
        double all = 0.0;
        double squares = 0.0;
        double latest = 0.0;
        for (int i = 0; i < now.rows.size(); i++) {
            latest = now.rowCorrections.get(i);
            faultSum += sum(now.rows.get(i)) >= now.limit ? latest : 0.0;
            all += latest;
            squares += latest * latest;
        }
        double number = now.rows.size();
        double odds = odds(now.limit);
        double estimate = number == 0 ? 0.0 : faultSum / number;
        return new double[] {odds, estimate, number == 0 ? 0.0 : count(4) / number,
            number == 0 ? 0.0 : all / number, number == 0 ? 0.0 : all * all / squares, latest,
            estimate - odds}[what];
    }

    private double odds(int limit) {
        return (double) faultWays(limit) / (double) allWays();
    }

    double ifLimit(int limit) {
        need(limit >= 0 && limit <= 99);
        return odds(limit);
    }

    int limitFor(int thousandths) {
        need(thousandths >= 0 && thousandths <= 1000);
        int limit = 0;
        while (faultWays(limit) * 1000 > thousandths * allWays()) {
            limit++;
        }
        return limit;
    }

    double greatest(boolean isFault) {
        double greatest = 0.0;
        for (int[] row : rowsWithAWay()) {
            if (!isFault || sum(row) >= now.limit) {
                greatest = Math.max(greatest, correction(row));
            }
        }
        return greatest;
    }

    int slightest() {
        int slightest = -1;
        double most = -1.0;
        for (int part = 0; part < now.parts.size(); part++) {
            Part removed = now.parts.remove(part);
            double odds = odds(now.limit);
            now.parts.add(part, removed);
            if (odds > most) {
                most = odds;
                slightest = part;
            }
        }
        return slightest;
    }

    long digest() {
        List<Long> values = new ArrayList<>();
        for (int what = 0; what <= 8; what++) {
            values.add((long) count(what));
        }
        for (int part = 0; part < now.parts.size(); part++) {
            for (int what = 0; what <= 6; what++) {
                values.add((long) part(part, what));
            }
            for (int load = 0; load < 12; load++) {
                values.add((long) weight(part, load % 6, load >= 6));
            }
            values.add((long) likeliest(part));
        }
        for (int sum = 0; sum <= 10; sum += 5) {
            values.add(ways(sum, false));
            values.add(ways(sum, true));
        }
        for (int what = 0; what <= 6; what++) {
            values.add(Double.doubleToLongBits(measure(what)));
        }
        values.add(Double.doubleToLongBits(ifLimit(5)));
        values.add(Double.doubleToLongBits(greatest(true)));
        values.add((long) limitFor(100));
        values.add((long) slightest());
        values.add((long) buffer.length());
        buffer.chars().forEach(code -> values.add((long) code));
        long hash = 2657;
        for (long value : values) {
            hash = 31 * hash + value;
        }
        return hash;
    }
}
