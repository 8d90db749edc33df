import java.util.function.IntSupplier;

/** Counts and prints what is not as due; a test's main ends with finish(). */
final class Check {
    private static int wrong = 0;
    private static int looked = 0;
    private static String sentence = "";

    private Check() {
    }

    static final Class<? extends RuntimeException> UNKNOWN = IllegalArgumentException.class;
    static final Class<? extends RuntimeException> RANGE = IndexOutOfBoundsException.class;
    static final Class<? extends RuntimeException> STATE = IllegalStateException.class;
    static final Class<? extends RuntimeException> NO_ROOM = UnsupportedOperationException.class;

    /** The words of the document that the checks from here on are about; they stand in front of what is not as due. */
    static void sentence(String words) {
        sentence = "[" + words + "] ";
    }

    static void due(String what, long want, long got) {
        looked++;
        if (want != got) {
            fail(what + " answered " + got + ", due is " + want);
        }
    }

    static void answers(String what, int want, IntSupplier call) {
        looked++;
        try {
            int got = call.getAsInt();
            if (got != want) {
                fail(what + " answered " + got + ", due is " + want);
            }
        } catch (RuntimeException e) {
            fail(what + " threw " + e + ", due is " + want);
        }
    }

    static void passes(String what, Runnable call) {
        looked++;
        try {
            call.run();
        } catch (RuntimeException e) {
            fail(what + " threw " + e + ", due is no exception");
        }
    }

    /** The very class: a machine's ArrayIndexOutOfBoundsException is not the IndexOutOfBoundsException that is due. */
    static void refuses(String what, Class<? extends RuntimeException> want, Runnable call) {
        looked++;
        try {
            call.run();
            fail(what + " threw nothing, due is " + want.getSimpleName());
        } catch (RuntimeException e) {
            if (e.getClass() != want) {
                fail(what + " threw " + e + ", due is " + want.getSimpleName());
            }
        }
    }

    static void fail(String text) {
        wrong++;
        if (wrong <= 50) {
            System.out.println(sentence + text);
        }
    }

    static void finish() {
        System.out.println(looked + " looked at, " + wrong + " not as due");
        if (wrong != 0) {
            System.exit(1);
        }
    }

    /** The document's sum in 64-bit arithmetic, written apart from the class under test. */
    static int sumOf(int... bytes) {
        long s = 0;
        for (int b : bytes) {
            long x = s ^ b;
            long turned = ((x * 32) % 4294967296L) + (x / 134217728L);
            s = (turned * 0x85EBCA6BL) & 0xFFFFFFFFL;
        }
        return (int) s;
    }
}
