import java.util.function.LongSupplier;

/** What every test needs: it counts what is wrong, prints it, and ends the program. */
final class Checks {
    private int checked = 0;
    private int wrong = 0;

    /** The answer of a call as the document's exceptions and numbers go. */
    static String answer(LongSupplier call) {
        try {
            return Long.toString(call.getAsLong());
        } catch (RuntimeException e) {
            // The machine's own exceptions are classes below these; they are told by their own name.
            return "throws." + e.getClass().getSimpleName();
        }
    }

    void due(String what, long want, LongSupplier call) {
        same(what, Long.toString(want), answer(call));
    }

    void noSuch(String what, LongSupplier call) {
        same(what, "throws.IndexOutOfBoundsException", answer(call));
    }

    void outOfRange(String what, LongSupplier call) {
        same(what, "throws.IllegalArgumentException", answer(call));
    }

    void wrongState(String what, LongSupplier call) {
        same(what, "throws.IllegalStateException", answer(call));
    }

    void same(String what, String want, String got) {
        checked++;
        if (!want.equals(got)) {
            wrong++;
            if (wrong <= 40) {
                System.out.println(what + " answered " + got + ", due is " + want);
            }
        }
    }

    /** A question whose answer must be yes. */
    void yes(String what, boolean holds) {
        same(what, "true", Boolean.toString(holds));
    }

    int looked() {
        return checked;
    }

    int wrong() {
        return wrong;
    }

    void end() {
        System.out.println(checked + " answers looked at, " + wrong + " wrong");
        if (wrong != 0) {
            System.exit(1);
        }
    }
}
