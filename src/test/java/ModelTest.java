import java.util.Random;

/** Runs of mixed calls, each answered by the class and by the brute-force model alike. */
public final class ModelTest {
    private static final Checks C = new Checks();
    private static final int RUNS = 60;
    private static final int CALLS = 512;
    private static final String TYPED = "000112359;;;0a";

    public static void main(String[] args) {
        for (int run = 0; run < RUNS; run++) {
            // a fixed seed a run: the same calls each time
            run(run, new Random(run));
        }
        C.end();
    }

    private static void run(int run, Random random) {
        RareFaults x = new RareFaults();
        Model y = new Model();
        for (int call = 0; call < CALLS; call++) {
            int kind = random.nextInt(30);
            int a = number(random);
            int b = number(random);
            int c = number(random);
            String what = "run " + run + ", call " + call + ", kind " + kind + "(" + a + ", " + b
                    + ", " + c + ")";
            C.due(what, Checks.outcome(() -> ofModel(y, kind, a, b, c)),
                    Checks.outcome(() -> ofClass(x, kind, a, b, c)));
        }
        C.due("run " + run + ", digest", y.digest(), x.digest());
    }

    /** Mostly small, at times an edge of some range, at times far off. */
    private static int number(Random random) {
        int[] edges = {-1, 9, 10, 30, 33, 60, 64, 65, 99, 100, 126, 127, 500, 999, 1000, 1001,
            Integer.MAX_VALUE, Integer.MIN_VALUE};
        return random.nextInt(5) > 0 ? random.nextInt(8) : edges[random.nextInt(edges.length)];
    }

    private static int typed(int a, int b) {
        int code = TYPED.charAt(Math.floorMod(a * 7 + b, TYPED.length()));
        return a == 127 ? a : code;
    }

    private static Object ofClass(RareFaults x, int kind, int a, int b, int c) {
        switch (kind) {
            case 0: return x.addPart(a);
            case 1: return a > 3 ? x.addPart(5) : x.removePart(a);
            case 2: return x.weigh(a, b, c);
            case 3: return x.tilt(a, b, c);
            case 4: return x.tiltAll(a);
            case 5: return x.limit(a + b);
            case 6: return x.seed(a * 12345 + b);
            case 7: return x.draw(a);
            case 8: return x.draw(64);
            case 9: return a > 5 ? x.forget() : x.draw(b);
            case 10: case 11: case 12: case 13: return x.append(typed(a, b));
            case 14: return a > 6 ? x.clearBuffer() : x.firstError();
            case 15: return x.firstError();
            case 16: return x.addAll();
            case 17: return x.undo();
            case 18: return x.part(a, b);
            case 19: return x.weight(a, b, c > 3);
            case 20: return x.ways(a + b, c > 3);
            case 21: return x.likeliest(a);
            case 22: return x.count(a);
            case 23: return x.measure(a);
            case 24: return x.ifLimit(a + b);
            case 25: return x.limitFor(a * b);
            case 26: return x.greatest(a > 3);
            case 27: return x.slightest();
            case 28: return a > 5 ? x.digest() : x.weigh(b, c, 0);
            default: return x.limit(3 + a);
        }
    }

    private static Object ofModel(Model y, int kind, int a, int b, int c) {
        switch (kind) {
            case 0: return y.addPart(a);
            case 1: return a > 3 ? y.addPart(5) : y.removePart(a);
            case 2: return y.weigh(a, b, c);
            case 3: return y.tilt(a, b, c);
            case 4: return y.tiltAll(a);
            case 5: return y.limit(a + b);
            case 6: return y.seed(a * 12345 + b);
            case 7: return y.draw(a);
            case 8: return y.draw(64);
            case 9: return a > 5 ? y.forget() : y.draw(b);
            case 10: case 11: case 12: case 13: return y.append(typed(a, b));
            case 14: return a > 6 ? y.clearBuffer() : y.firstError();
            case 15: return y.firstError();
            case 16: return y.addAll();
            case 17: return y.undo();
            case 18: return y.part(a, b);
            case 19: return y.weight(a, b, c > 3);
            case 20: return y.ways(a + b, c > 3);
            case 21: return y.likeliest(a);
            case 22: return y.count(a);
            case 23: return y.measure(a);
            case 24: return y.ifLimit(a + b);
            case 25: return y.limitFor(a * b);
            case 26: return y.greatest(a > 3);
            case 27: return y.slightest();
            case 28: return a > 5 ? y.digest() : y.weigh(b, c, 0);
            default: return y.limit(3 + a);
        }
    }
}
