/**
 * Rows of loads sampled for the rarest fault. A plant has up to six parts with a weight for each
 * load; rows of loads are drawn by tilted weights, and corrections make up for the tilt.
 */
public final class RareFaults {
    /** There is nothing to return. */
    public static final int NONE = -1;

    private static final int MOST_PARTS = 6;
    private static final int LOADS = 6;
    private static final int MOST_SUM = MOST_PARTS * (LOADS - 1);
    private static final int SUMS = MOST_SUM + 1;
    private static final int MOST_WEIGHT = 9;
    private static final int MOST_TILTED = 99;
    private static final int MOST_BY = 9;
    private static final int MOST_LIMIT = 99;
    private static final int FIRST_LIMIT = 10;
    private static final int FIRST_SEED = 1;
    private static final long SEED_FACTOR = 1103515245L;
    private static final long SEED_STEP = 12345L;
    private static final long SEEDS = 2147483648L;
    private static final int SEED_SHIFT = 65536;
    private static final int MOST_DRAWN = 64;
    private static final int MOST_SAMPLES = 9999;
    private static final int MOST_SAVED = 6;
    private static final int MOST_CODES = 60;
    private static final int LEAST_CODE = 33;
    private static final int GREATEST_CODE = 126;
    private static final int MOST_THOUSANDTHS = 1000;
    private static final int PART_KINDS = 7;
    private static final int COUNT_KINDS = 9;
    private static final int MEASURE_KINDS = 7;
    private static final long FIRST_HASH = 2657L;
    private static final int MOST_HALVINGS = 1100;
    private static final int EXPONENT_BIAS = 1023;
    private static final int FRACTION_BITS = 52;

    private final Plant plant = new Plant();
    private final History history = new History();
    private final Text buffer = new Text();
    private final Counting counting = new Counting();
    private final Likeliest likeliestFault = new Likeliest();
    private final Corrections corrections = new Corrections();

    /** Creates a plant without parts, with an empty buffer. */
    public RareFaults() {
    }

    // ---- parts

    /** Adds a part with the weight 1 for each load from 0 to a greatest one; returns its number. */
    public int addPart(int greatest) throws IllegalArgumentException, IllegalStateException {
        if (greatest < 0 || greatest >= LOADS) {
            throw new IllegalArgumentException("greatest is out of range");
        }
        if (plant.parts >= MOST_PARTS) {
            throw new IllegalStateException("there are 6 parts");
        }
        history.save(plant);
        int part = plant.addEmptyPart();
        for (int load = 0; load <= greatest; load++) {
            plant.setBothWeights(part, load, 1);
        }
        return part;
    }

    /** Removes a part; returns how many there are then. */
    public int removePart(int part) throws IndexOutOfBoundsException {
        requirePart(part);
        history.save(plant);
        plant.dropPart(part);
        return plant.parts;
    }

    /** Changes a weight, and the tilted one if either was or becomes 0; returns the previous weight. */
    public int weigh(int part, int load, int weight)
            throws IndexOutOfBoundsException, IllegalArgumentException, IllegalStateException {
        requirePart(part);
        requireLoad(load);
        requireRange(weight, 0, MOST_WEIGHT);
        int previous = plant.weights.get(part, load);
        if (weight == 0 && plant.weights.totalOf(part) == previous) {
            throw new IllegalStateException("all weights of the part would be 0");
        }
        history.save(plant);
        plant.setWeight(part, load, weight);
        return previous;
    }

    /** Changes a tilted weight; returns the previous one. */
    public int tilt(int part, int load, int weight)
            throws IndexOutOfBoundsException, IllegalArgumentException, IllegalStateException {
        requirePart(part);
        requireLoad(load);
        requireRange(weight, 1, MOST_TILTED);
        if (plant.weights.get(part, load) == 0) {
            throw new IllegalStateException("the weight of this load is 0");
        }
        history.save(plant);
        int previous = plant.tilted.get(part, load);
        plant.setTilted(part, load, weight);
        return previous;
    }

    /** Tilts all parts by a rule; returns the sum of all tilted totals then. */
    public int tiltAll(int by) throws IllegalArgumentException {
        requireRange(by, 0, MOST_BY);
        history.save(plant);
        plant.tiltBy(by);
        return plant.sumOfTiltedTotals();
    }

    /** Changes the limit; returns the previous one. */
    public int limit(int limit) throws IllegalArgumentException {
        requireRange(limit, 0, MOST_LIMIT);
        history.save(plant);
        int previous = plant.limit;
        plant.setLimit(limit);
        return previous;
    }

    // ---- samples

    /** Changes the seed, samples stay; returns the previous seed. */
    public int seed(int seed) throws IllegalArgumentException {
        if (seed < 0) {
            throw new IllegalArgumentException("seed is below 0");
        }
        history.save(plant);
        int previous = plant.seed;
        plant.seed = seed;
        return previous;
    }

    /** Draws rows; returns how many of them are faults. */
    public int draw(int many) throws IllegalArgumentException, IllegalStateException {
        requireRange(many, 1, MOST_DRAWN);
        if (plant.samples.number + many > MOST_SAMPLES) {
            throw new IllegalStateException("there would be more than 9999 samples");
        }
        history.save(plant);
        int before = plant.samples.faults;
        for (int row = 0; row < many; row++) {
            plant.drawRow();
        }
        return plant.samples.faults - before;
    }

    /** Forgets all samples; returns how many there were. */
    public int forget() {
        history.save(plant);
        int number = plant.samples.number;
        plant.samples.clear();
        return number;
    }

    // ---- texts

    /** Appends a character to the buffer; returns its new length. */
    public int append(int code) throws IllegalArgumentException, IllegalStateException {
        requireRange(code, LEAST_CODE, GREATEST_CODE);
        if (buffer.length >= MOST_CODES) {
            throw new IllegalStateException("the buffer has 60 characters");
        }
        buffer.add(code);
        return buffer.length;
    }

    /** Clears the buffer; returns the length that it had. */
    public int clearBuffer() {
        int length = buffer.length;
        buffer.clear();
        return length;
    }

    /** Returns the index of the first syntax error, the length of the buffer if there is none. */
    public int firstError() {
        return new Syntax().read(buffer);
    }

    /** Adds the parts in the buffer, all or none, and clears it; returns how many there are then. */
    public int addAll() throws IllegalArgumentException, IllegalStateException {
        Syntax syntax = new Syntax();
        if (syntax.read(buffer) < buffer.length || !syntax.isPartComplete()) {
            throw new IllegalArgumentException("the buffer is not complete parts as a text");
        }
        if (plant.parts + syntax.parts > MOST_PARTS) {
            throw new IllegalStateException("there would be more than 6 parts");
        }
        history.save(plant);
        buffer.addPartsTo(plant);
        buffer.clear();
        return plant.parts;
    }

    /** Restores the latest saved state, and drops it; returns how many are left. */
    public int undo() throws IllegalStateException {
        if (history.number == 0) {
            throw new IllegalStateException("there is no saved state");
        }
        history.restore(plant);
        return history.number;
    }

    // ---- looks; nothing is changed

    /** Returns a property of a part. */
    public int part(int part, int what) throws IndexOutOfBoundsException, IllegalArgumentException {
        requirePart(part);
        requireRange(what, 0, PART_KINDS - 1);
        switch (what) {
            case 0:
                return plant.weights.totalOf(part);
            case 1:
                return plant.tilted.totalOf(part);
            case 2:
                return plant.weights.leastLoadOf(part);
            case 3:
                return plant.weights.greatestLoadOf(part);
            case 4:
                return plant.weights.momentOf(part);
            case 5:
                return plant.tilted.momentOf(part);
            default:
                return plant.samples.latestLoadOf(part);
        }
    }

    /** Returns a weight, or a tilted one. */
    public int weight(int part, int load, boolean isTilted) throws IndexOutOfBoundsException {
        requirePart(part);
        requireLoad(load);
        return isTilted ? plant.tilted.get(part, load) : plant.weights.get(part, load);
    }

    /** Returns the sum of the ways of all rows with this sum (or a greater one). */
    public long ways(int sum, boolean orAbove) throws IllegalArgumentException {
        requireRange(sum, 0, MOST_LIMIT);
        counting.fill(plant, NONE);
        return orAbove ? counting.waysFrom(sum) : counting.waysOf(sum);
    }

    /** Returns the load of a part in the fault with the most ways, NONE if no fault has a way. */
    public int likeliest(int part) throws IndexOutOfBoundsException {
        requirePart(part);
        likeliestFault.fill(plant);
        return likeliestFault.loadOf(plant, part);
    }

    /** Returns a number. */
    public int count(int what) throws IllegalArgumentException {
        requireRange(what, 0, COUNT_KINDS - 1);
        switch (what) {
            case 0:
                return plant.parts;
            case 1:
                return plant.limit;
            case 2:
                return plant.seed;
            case 3:
                return plant.samples.number;
            case 4:
                return plant.samples.faults;
            case 5:
                return plant.leastSum();
            case 6:
                return plant.greatestSum();
            case 7:
                likeliestFault.fill(plant);
                return likeliestFault.waysFor(plant.limit);
            default:
                return history.number;
        }
    }

    /** Returns a double. */
    public double measure(int what) throws IllegalArgumentException {
        requireRange(what, 0, MEASURE_KINDS - 1);
        Samples samples = plant.samples;
        switch (what) {
            case 0:
                return oddsFor(plant.limit, NONE);
            case 1:
                return samples.shareOf(samples.faultSum);
            case 2:
                return samples.shareOf(samples.faults);
            case 3:
                return samples.shareOf(samples.sum);
            case 4:
                return samples.effectiveNumber();
            case 5:
                return samples.latestCorrection;
            default:
                return samples.shareOf(samples.faultSum) - oddsFor(plant.limit, NONE);
        }
    }

    // ---- what would be; nothing is changed

    /** Returns the odds with another limit. */
    public double ifLimit(int limit) throws IllegalArgumentException {
        requireRange(limit, 0, MOST_LIMIT);
        return oddsFor(limit, NONE);
    }

    /** Returns the least limit with which the odds are at most some thousandths. */
    public int limitFor(int thousandths) throws IllegalArgumentException {
        requireRange(thousandths, 0, MOST_THOUSANDTHS);
        counting.fill(plant, NONE);
        long most = counting.waysFrom(0) * thousandths;
        for (int limit = 0; limit < MOST_LIMIT; limit++) {
            if (counting.waysFrom(limit) * MOST_THOUSANDTHS <= most) {
                return limit;
            }
        }
        return MOST_LIMIT;
    }

    /** Returns the greatest correction that a row (or a fault) can have, 0.0 if there is none. */
    public double greatest(boolean isFault) {
        corrections.fill(plant);
        return corrections.greatestFrom(isFault ? plant.limit : 0);
    }

    /** Returns the part without which the odds would be greatest; NONE without parts. */
    public int slightest() {
        int slightest = NONE;
        double greatestOdds = -1.0;
        for (int part = 0; part < plant.parts; part++) {
            double odds = oddsFor(plant.limit, part);
            if (odds > greatestOdds) {
                greatestOdds = odds;
                slightest = part;
            }
        }
        return slightest;
    }

    /** Computes a hash of the whole state. */
    public long digest() {
        long hash = FIRST_HASH;
        for (int what = 0; what < COUNT_KINDS; what++) {
            hash = hashWith(hash, count(what));
        }
        for (int part = 0; part < plant.parts; part++) {
            hash = hashWithPart(hash, part);
        }
        for (int sum = 0; sum <= 10; sum += 5) {
            hash = hashWith(hash, ways(sum, false));
            hash = hashWith(hash, ways(sum, true));
        }
        for (int what = 0; what < MEASURE_KINDS; what++) {
            hash = hashWith(hash, bitsOf(measure(what)));
        }
        hash = hashWith(hash, bitsOf(ifLimit(5)));
        hash = hashWith(hash, bitsOf(greatest(true)));
        hash = hashWith(hash, limitFor(100));
        hash = hashWith(hash, slightest());
        hash = hashWith(hash, buffer.length);
        for (int index = 0; index < buffer.length; index++) {
            hash = hashWith(hash, buffer.codeAt(index));
        }
        return hash;
    }

    private long hashWithPart(long start, int part) {
        long hash = start;
        for (int what = 0; what < PART_KINDS; what++) {
            hash = hashWith(hash, part(part, what));
        }
        for (int load = 0; load < LOADS; load++) {
            hash = hashWith(hash, plant.weights.get(part, load));
        }
        for (int load = 0; load < LOADS; load++) {
            hash = hashWith(hash, plant.tilted.get(part, load));
        }
        return hashWith(hash, likeliest(part));
    }

    private static long hashWith(long hash, long value) {
        return 31L * hash + value;
    }

    /**
     * The bits of a double as Double.doubleToLongBits tells them, which the rules of the language
     * leave out. No double of this class is so small that its bits have another form, or is -0.0.
     */
    private static long bitsOf(double value) {
        if (value == 0.0) {
            return 0L;
        }
        double size = value < 0.0 ? -value : value;
        int exponent = 0;
        for (int step = 0; step < MOST_HALVINGS && size >= 2.0; step++) {
            size = size / 2.0;
            exponent++;
        }
        for (int step = 0; step < MOST_HALVINGS && size < 1.0; step++) {
            size = size * 2.0;
            exponent--;
        }
        long fraction = (long) ((size - 1.0) * (1L << FRACTION_BITS));
        long sign = value < 0.0 ? Long.MIN_VALUE : 0L;
        return sign | ((long) (exponent + EXPONENT_BIAS) << FRACTION_BITS) | fraction;
    }

    private double oddsFor(int limit, int without) {
        counting.fill(plant, without);
        return counting.oddsFrom(limit);
    }

    private void requirePart(int part) {
        if (part < 0 || part >= plant.parts) {
            throw new IndexOutOfBoundsException("there is no such part");
        }
    }

    private static void requireLoad(int load) {
        if (load < 0 || load >= LOADS) {
            throw new IndexOutOfBoundsException("there is no such load");
        }
    }

    private static void requireRange(int value, int least, int most) {
        if (value < least || value > most) {
            throw new IllegalArgumentException("a number is out of range");
        }
    }

    /** A number for each load of each part; the rows behind the last part are all 0. */
    private static final class Table {
        private final int[] cells = new int[MOST_PARTS * LOADS];

        int get(int part, int load) {
            boolean isCell = part >= 0 && part < MOST_PARTS && load >= 0 && load < LOADS;
            return isCell ? cells[part * LOADS + load] : 0;
        }

        void set(int part, int load, int weight) {
            if (part >= 0 && part < MOST_PARTS && load >= 0 && load < LOADS) {
                cells[part * LOADS + load] = weight;
            }
        }

        int totalOf(int part) {
            int total = 0;
            for (int load = 0; load < LOADS; load++) {
                total += get(part, load);
            }
            return total;
        }

        /** The sum of all loads times their weights. */
        int momentOf(int part) {
            int moment = 0;
            for (int load = 0; load < LOADS; load++) {
                moment += load * get(part, load);
            }
            return moment;
        }

        int leastLoadOf(int part) {
            for (int load = 0; load < LOADS; load++) {
                if (get(part, load) > 0) {
                    return load;
                }
            }
            return NONE;
        }

        int greatestLoadOf(int part) {
            for (int load = LOADS - 1; load >= 0; load--) {
                if (get(part, load) > 0) {
                    return load;
                }
            }
            return NONE;
        }

        /** Drops a row; those behind it move up, and the last one becomes all 0. */
        void dropRow(int part) {
            for (int row = part; row < MOST_PARTS; row++) {
                for (int load = 0; load < LOADS; load++) {
                    set(row, load, get(row + 1, load));
                }
            }
        }

        void copyFrom(Table other) {
            for (int cell = 0; cell < cells.length && cell < other.cells.length; cell++) {
                cells[cell] = other.cells[cell];
            }
        }
    }

    /** What is kept of all samples since they were forgotten last. */
    private static final class Samples {
        private final int[] latestLoads = new int[MOST_PARTS];
        int number;
        int faults;
        double faultSum;
        double sum;
        double squareSum;
        double latestCorrection;

        void clear() {
            number = 0;
            faults = 0;
            faultSum = 0.0;
            sum = 0.0;
            squareSum = 0.0;
            latestCorrection = 0.0;
        }

        void setLatestLoad(int part, int load) {
            if (part >= 0 && part < latestLoads.length) {
                latestLoads[part] = load;
            }
        }

        int latestLoadOf(int part) {
            boolean isThere = number > 0 && part >= 0 && part < latestLoads.length;
            return isThere ? latestLoads[part] : NONE;
        }

        void add(double correction, boolean isFault) {
            number++;
            if (isFault) {
                faults++;
                faultSum += correction;
            }
            sum += correction;
            squareSum += correction * correction;
            latestCorrection = correction;
        }

        /** A sum, divided by the number of samples. */
        double shareOf(double part) {
            return number > 0 ? part / number : 0.0;
        }

        double effectiveNumber() {
            return squareSum > 0.0 ? sum * sum / squareSum : 0.0;
        }

        void copyFrom(Samples other) {
            for (int part = 0; part < latestLoads.length; part++) {
                latestLoads[part] = part < other.latestLoads.length ? other.latestLoads[part] : 0;
            }
            number = other.number;
            faults = other.faults;
            faultSum = other.faultSum;
            sum = other.sum;
            squareSum = other.squareSum;
            latestCorrection = other.latestCorrection;
        }
    }

    /** All that undo restores: parts, limit, seed and samples. */
    private static final class Plant {
        final Table weights = new Table();
        final Table tilted = new Table();
        final Samples samples = new Samples();
        int parts = 0;
        int limit = FIRST_LIMIT;
        int seed = FIRST_SEED;

        /** Adds a part whose weights, not all 0, are to be set yet; returns its number. */
        int addEmptyPart() {
            parts++;
            samples.clear();
            return parts - 1;
        }

        void dropPart(int part) {
            weights.dropRow(part);
            tilted.dropRow(part);
            parts--;
            samples.clear();
        }

        /** Sets a weight, and the tilted one, of a part that was just added. */
        void setBothWeights(int part, int load, int weight) {
            weights.set(part, load, weight);
            tilted.set(part, load, weight);
        }

        void setWeight(int part, int load, int weight) {
            if (weight == 0 || weights.get(part, load) == 0) {
                tilted.set(part, load, weight);
            }
            weights.set(part, load, weight);
            samples.clear();
        }

        void setTilted(int part, int load, int weight) {
            tilted.set(part, load, weight);
            samples.clear();
        }

        void tiltBy(int by) {
            for (int part = 0; part < parts; part++) {
                for (int load = 0; load < LOADS; load++) {
                    int weight = weights.get(part, load) * (1 + load * by);
                    tilted.set(part, load, Math.min(weight, MOST_TILTED));
                }
            }
            samples.clear();
        }

        void setLimit(int newLimit) {
            limit = newLimit;
            samples.clear();
        }

        int sumOfTiltedTotals() {
            int sum = 0;
            for (int part = 0; part < parts; part++) {
                sum += tilted.totalOf(part);
            }
            return sum;
        }

        int leastSum() {
            int sum = 0;
            for (int part = 0; part < parts; part++) {
                sum += weights.leastLoadOf(part);
            }
            return sum;
        }

        int greatestSum() {
            int sum = 0;
            for (int part = 0; part < parts; part++) {
                sum += weights.greatestLoadOf(part);
            }
            return sum;
        }

        void drawRow() {
            int sum = 0;
            double correction = 1.0;
            for (int part = 0; part < parts; part++) {
                int load = drawLoad(part);
                samples.setLatestLoad(part, load);
                sum += load;
                correction = corrected(correction, part, load);
            }
            samples.add(correction, sum >= limit);
        }

        private int drawLoad(int part) {
            seed = (int) ((seed * SEED_FACTOR + SEED_STEP) % SEEDS);
            int total = tilted.totalOf(part);
            int number = total > 0 ? seed / SEED_SHIFT % total : 0;
            int upTo = 0;
            for (int load = 0; load < LOADS; load++) {
                upTo += tilted.get(part, load);
                if (upTo > number) {
                    return load;
                }
            }
            return LOADS - 1;
        }

        /** A correction with one more load; 0.0 if the load has no way. */
        double corrected(double correction, int part, int load) {
            int total = weights.totalOf(part);
            int tiltedWeight = tilted.get(part, load);
            if (total <= 0 || tiltedWeight <= 0) {
                return 0.0;
            }
            // the document fixes the order of these four, and doubles round at each
            return correction * weights.get(part, load) * tilted.totalOf(part) / total / tiltedWeight;
        }

        void copyFrom(Plant other) {
            weights.copyFrom(other.weights);
            tilted.copyFrom(other.tilted);
            samples.copyFrom(other.samples);
            parts = other.parts;
            limit = other.limit;
            seed = other.seed;
        }
    }

    /** The saved states, in a ring whose places are used again. */
    private static final class History {
        private final Plant[] places = new Plant[MOST_SAVED];
        private int next = 0;
        int number = 0;

        void save(Plant plant) {
            if (next < 0 || next >= places.length) {
                return;
            }
            Plant place = places[next];
            if (place == null) {
                place = new Plant();
                places[next] = place;
            }
            place.copyFrom(plant);
            next = (next + 1) % MOST_SAVED;
            number = Math.min(number + 1, MOST_SAVED);
        }

        /** Restores the latest saved state, and drops it. */
        void restore(Plant plant) {
            int latest = (next + MOST_SAVED - 1) % MOST_SAVED;
            if (number <= 0 || latest < 0 || latest >= places.length) {
                return;
            }
            Plant place = places[latest];
            if (place == null) {
                return;
            }
            plant.copyFrom(place);
            next = latest;
            number--;
        }
    }

    /** The buffer of characters. */
    private static final class Text {
        private final int[] codes = new int[MOST_CODES];
        int length = 0;

        void add(int code) {
            if (length >= 0 && length < codes.length) {
                codes[length] = code;
                length++;
            }
        }

        void clear() {
            length = 0;
        }

        int codeAt(int index) {
            return index >= 0 && index < length && index < codes.length ? codes[index] : 0;
        }

        /** Adds the parts of this text, which has no syntax error. */
        void addPartsTo(Plant plant) {
            int part = plant.addEmptyPart();
            int load = 0;
            for (int index = 0; index < length; index++) {
                int code = codeAt(index);
                if (code == ';') {
                    part = plant.addEmptyPart();
                    load = 0;
                } else {
                    plant.setBothWeights(part, load, code - '0');
                    load++;
                }
            }
        }
    }

    /** A reader of parts as a text, character by character. */
    private static final class Syntax {
        int parts = 1;
        private int digits = 0;
        private boolean isAboveZero = false;

        /** Reads a text; returns the index of its first syntax error, its length if there is none. */
        int read(Text text) {
            for (int index = 0; index < text.length; index++) {
                if (!accepts(text.codeAt(index))) {
                    return index;
                }
            }
            return text.length;
        }

        boolean isPartComplete() {
            return isAboveZero;
        }

        private boolean accepts(int code) {
            if (code == ';') {
                return acceptsNextPart();
            }
            return code >= '0' && code <= '9' && acceptsDigit(code - '0');
        }

        private boolean acceptsNextPart() {
            boolean isAccepted = isAboveZero;
            parts++;
            digits = 0;
            isAboveZero = false;
            return isAccepted;
        }

        private boolean acceptsDigit(int digit) {
            digits++;
            isAboveZero = isAboveZero || digit > 0;
            // the last digit that may come must not leave all weights 0
            return digits < LOADS || digits == LOADS && isAboveZero;
        }
    }

    /** The ways of all rows, counted by their sum. */
    private static final class Counting {
        private final long[] ways = new long[SUMS];

        /** Counts with all parts but one (NONE: with all). */
        void fill(Plant plant, int without) {
            for (int sum = 0; sum < ways.length; sum++) {
                ways[sum] = sum == 0 ? 1L : 0L;
            }
            for (int part = 0; part < plant.parts; part++) {
                if (part != without) {
                    addPartOf(plant, part);
                }
            }
        }

        private void addPartOf(Plant plant, int part) {
            // downwards, for a sum needs the old ways of those below it
            for (int sum = ways.length - 1; sum >= 0; sum--) {
                long all = 0L;
                for (int load = 0; load < LOADS; load++) {
                    all += plant.weights.get(part, load) * waysOf(sum - load);
                }
                ways[sum] = all;
            }
        }

        long waysOf(int sum) {
            return sum >= 0 && sum < ways.length ? ways[sum] : 0L;
        }

        long waysFrom(int least) {
            long all = 0L;
            for (int sum = Math.max(least, 0); sum < ways.length; sum++) {
                all += ways[sum];
            }
            return all;
        }

        double oddsFrom(int limit) {
            long all = waysFrom(0);
            return all > 0L ? (double) waysFrom(limit) / (double) all : 0.0;
        }
    }

    /**
     * The fault with the most ways. For each part and each sum that is still needed for a fault,
     * it holds the most ways that this part and those behind it have.
     */
    private static final class Likeliest {
        private final int[] most = new int[(MOST_PARTS + 1) * SUMS];

        void fill(Plant plant) {
            for (int need = 0; need < SUMS; need++) {
                setMost(plant.parts, need, need == 0 ? 1 : 0);
            }
            for (int part = plant.parts - 1; part >= 0; part--) {
                for (int need = 0; need < SUMS; need++) {
                    setMost(part, need, mostOfLoads(plant, part, need));
                }
            }
        }

        /** The ways of the likeliest fault, 0 if none has a way. */
        int waysFor(int limit) {
            return getMost(0, limit);
        }

        /** The load of a part in the first of the likeliest faults, NONE if none has a way. */
        int loadOf(Plant plant, int wanted) {
            if (waysFor(plant.limit) == 0) {
                return NONE;
            }
            int need = plant.limit;
            for (int part = 0; part < wanted; part++) {
                need = Math.max(need - firstLoad(plant, part, need), 0);
            }
            return firstLoad(plant, wanted, need);
        }

        private int firstLoad(Plant plant, int part, int need) {
            for (int load = 0; load < LOADS; load++) {
                if (waysWith(plant, part, load, need) == getMost(part, need)) {
                    return load;
                }
            }
            return NONE;
        }

        private int mostOfLoads(Plant plant, int part, int need) {
            int ways = 0;
            for (int load = 0; load < LOADS; load++) {
                ways = Math.max(ways, waysWith(plant, part, load, need));
            }
            return ways;
        }

        private int waysWith(Plant plant, int part, int load, int need) {
            return plant.weights.get(part, load) * getMost(part + 1, Math.max(need - load, 0));
        }

        private int getMost(int part, int need) {
            boolean isCell = part >= 0 && part <= MOST_PARTS && need >= 0 && need < SUMS;
            return isCell ? most[part * SUMS + need] : 0;
        }

        private void setMost(int part, int need, int ways) {
            if (part >= 0 && part <= MOST_PARTS && need >= 0 && need < SUMS) {
                most[part * SUMS + need] = ways;
            }
        }
    }

    /**
     * The greatest correction of all rows with a way, by their sum (0.0 if there is none). A
     * greater correction never becomes the lesser one by one more load, rounding included: so the
     * greatest one before each part is enough to go through all rows.
     */
    private static final class Corrections {
        private final double[] greatestBySum = new double[SUMS];

        void fill(Plant plant) {
            for (int sum = 0; sum < greatestBySum.length; sum++) {
                greatestBySum[sum] = sum == 0 ? 1.0 : 0.0;
            }
            for (int part = 0; part < plant.parts; part++) {
                addPartOf(plant, part);
            }
        }

        private void addPartOf(Plant plant, int part) {
            // downwards, for a sum needs the old corrections of those below it
            for (int sum = greatestBySum.length - 1; sum >= 0; sum--) {
                double most = 0.0;
                for (int load = 0; load < LOADS; load++) {
                    double correction = plant.corrected(correctionOf(sum - load), part, load);
                    most = correction > most ? correction : most;
                }
                greatestBySum[sum] = most;
            }
        }

        private double correctionOf(int sum) {
            return sum >= 0 && sum < greatestBySum.length ? greatestBySum[sum] : 0.0;
        }

        double greatestFrom(int limit) {
            double most = 0.0;
            for (int sum = Math.max(limit, 0); sum < greatestBySum.length; sum++) {
                most = greatestBySum[sum] > most ? greatestBySum[sum] : most;
            }
            return most;
        }
    }
}
