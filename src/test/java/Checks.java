import java.util.Objects;

/** Compares answers with those that are due, and counts those that differ. */
final class Checks {
    /** A call of the class under test; its answer, boxed. */
    interface Call {
        Object answer();
    }

    private int wrong = 0;
    private int made = 0;

    /** Checks an answer; numbers are compared as longs or, for a Double, bit by bit. */
    void due(String what, Object want, Object got) {
        made++;
        if (!Objects.equals(widened(want), widened(got))) {
            wrong++;
            System.out.println(what + " answered " + got + ", due is " + want);
        }
    }

    /** Checks that a call throws just this class, and changes nothing that digest tells. */
    void dueThrow(String what, RareFaults plant, Class<? extends RuntimeException> want, Call call) {
        long before = plant.digest();
        due(what, want.getSimpleName(), outcome(call));
        due(what + " leaves the state", before, plant.digest());
    }

    /** The answer of a call, or the simple name of the exception that it throws. */
    static Object outcome(Call call) {
        try {
            return call.answer();
        } catch (RuntimeException e) {
            return e.getClass().getSimpleName();
        }
    }

    /** Tells how it went, and ends the program with exit code 1 if anything was wrong. */
    void end() {
        System.out.println(made + " answers, " + wrong + " wrong");
        if (wrong > 0 || made == 0) {
            System.exit(1);
        }
    }

    /** Appends a text to the buffer. */
    static void type(RareFaults plant, String text) {
        for (int i = 0; i < text.length(); i++) {
            plant.append(text.charAt(i));
        }
    }

    /** A new object with the parts of a text. */
    static RareFaults plantOf(String text) {
        RareFaults plant = new RareFaults();
        type(plant, text);
        plant.addAll();
        return plant;
    }

    private static Object widened(Object value) {
        return value instanceof Integer ? (Object) ((Integer) value).longValue() : value;
    }
}
