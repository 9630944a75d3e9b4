import java.util.function.LongSupplier;

/** What every test uses: it prints each answer that is not the one that is due, and counts them. */
final class Check {
    static final Class<? extends RuntimeException> ARGUMENT = IllegalArgumentException.class;
    static final Class<? extends RuntimeException> STATE = IllegalStateException.class;
    static final Class<? extends RuntimeException> FAILED = UnsupportedOperationException.class;
    static final Class<? extends RuntimeException> INDEX = IndexOutOfBoundsException.class;

    private static int wrong = 0;

    private Check() {
    }

    static void due(String what, long got, long want) {
        if (got != want) {
            tell(what + " answered " + got + ", due is " + want);
        }
    }

    static void yes(String what, boolean got) {
        if (!got) {
            tell(what + " answered false, due is true");
        }
    }

    static void no(String what, boolean got) {
        if (got) {
            tell(what + " answered true, due is false");
        }
    }

    /** The very class is due: the machine's own ArrayIndexOutOfBoundsException is none of the document's. */
    static void thrown(String what, Class<? extends RuntimeException> want, LongSupplier call) {
        try {
            tell(what + " answered " + call.getAsLong() + ", due is " + want.getSimpleName());
        } catch (RuntimeException e) {
            if (e.getClass() != want) {
                tell(what + " threw " + e.getClass().getSimpleName() + ", due is " + want.getSimpleName());
            }
        }
    }

    static void tell(String fault) {
        wrong++;
        System.out.println(fault);
    }

    static void finish() {
        if (wrong != 0) {
            System.out.println(wrong + " answers are not as due");
            System.exit(1);
        }
    }
}
