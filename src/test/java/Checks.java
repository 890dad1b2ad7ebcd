import java.util.Objects;
import java.util.function.Supplier;

/** Compares answers with those that are due, and counts those that differ. */
final class Checks {
    private static final int MOST_SAVED = 6;

    /** A call of the class under test; its answer, boxed. */
    interface Call {
        Object answer();
    }

    /** A call of the class under test, on an object that is told. */
    interface On {
        Object answer(RareFaults plant);
    }

    /** A call of the class under test, on an object and with a number that are told. */
    interface Taking {
        Object answer(RareFaults plant, int number);
    }

    private int wrong = 0;
    private int made = 0;

    int made() {
        return made;
    }

    int wrong() {
        return wrong;
    }

    /** Checks an answer; numbers are compared as longs or, for a Double, bit by bit. */
    void due(String what, Object want, Object got) {
        made++;
        if (!Objects.equals(widened(want), widened(got))) {
            wrong++;
            System.out.println(what + " answered " + got + ", due is " + want);
        }
    }

    /** Checks that a call throws just this class, and changes nothing that digest tells. */
    void dueThrow(String what, RareFaults plant, Class<? extends RuntimeException> want, Call call) {
        long before = plant.digest();
        due(what, want.getSimpleName(), outcome(call));
        due(what + " leaves the state", before, plant.digest());
    }

    /** Checks that a call throws just this class, and changes nothing, saved states included. */
    void refused(String what, Supplier<RareFaults> maker, Class<? extends RuntimeException> want,
            On call) {
        RareFaults plant = maker.get();
        due(what, want.getSimpleName(), outcome(() -> call.answer(plant)));
        alike(what + " changes nothing", maker.get(), plant);
    }

    /** Checks that a call answers, and changes nothing, saved states included. */
    void looked(String what, Supplier<RareFaults> maker, On call) {
        RareFaults plant = maker.get();
        accepted(what, () -> call.answer(plant));
        alike(what + " changes nothing", maker.get(), plant);
    }

    /** Checks that a call throws nothing. */
    void accepted(String what, Call call) {
        Object outcome = outcome(call);
        due(what, "an answer", outcome instanceof String ? outcome : "an answer");
    }

    /** Checks that a call takes the numbers from a least to a greatest one, and no others. */
    void range(String what, int least, int most, Class<? extends RuntimeException> want,
            Supplier<RareFaults> maker, Taking call) {
        for (int number : new int[] {least, most}) {
            RareFaults plant = maker.get();
            accepted(what + " with " + number, () -> call.answer(plant, number));
        }
        for (int number : new int[] {least - 1, Integer.MIN_VALUE}) {
            refused(what + " with " + number, maker, want, x -> call.answer(x, number));
        }
        if (most < Integer.MAX_VALUE) {
            for (int number : new int[] {most + 1, Integer.MAX_VALUE}) {
                refused(what + " with " + number, maker, want, x -> call.answer(x, number));
            }
        }
    }

    /** Checks all measures of an object. */
    void dueMeasures(String what, double[] want, RareFaults got) {
        for (int kind = 0; kind < want.length; kind++) {
            due(what + ", measure(" + kind + ")", want[kind], got.measure(kind));
        }
    }

    /** Checks that two objects have the same state, and the same saved states; drops the latter. */
    void alike(String what, RareFaults want, RareFaults got) {
        due(what, want.digest(), got.digest());
        for (int state = 0; state <= MOST_SAVED; state++) {
            due(what + ", undo " + state, outcome(want::undo), outcome(got::undo));
            due(what + ", after undo " + state, want.digest(), got.digest());
        }
    }

    /** The answer of a call, or the simple name of the exception that it throws. */
    static Object outcome(Call call) {
        try {
            return call.answer();
        } catch (RuntimeException e) {
            return e.getClass().getSimpleName();
        }
    }

    /** Tells how it went, and ends the program with exit code 1 if anything was wrong. */
    void end() {
        System.out.println(made + " answers, " + wrong + " wrong");
        if (wrong > 0 || made == 0) {
            System.exit(1);
        }
    }

    /** Appends a text to the buffer. */
    static void type(RareFaults plant, String text) {
        for (int i = 0; i < text.length(); i++) {
            plant.append(text.charAt(i));
        }
    }

    /** A new object with the parts of a text. */
    static RareFaults plantOf(String text) {
        RareFaults plant = new RareFaults();
        type(plant, text);
        plant.addAll();
        return plant;
    }

    private static Object widened(Object value) {
        return value instanceof Integer ? (Object) ((Integer) value).longValue() : value;
    }
}
