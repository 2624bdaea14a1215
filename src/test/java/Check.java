/** What the tests share: it counts and prints each answer that is not the one that is due. */
final class Check {
    interface Call {
        void make();
    }

    private static int made = 0;
    private static int wrong = 0;

    static final Class<?> INDEX = IndexOutOfBoundsException.class;
    static final Class<?> ARGUMENT = IllegalArgumentException.class;
    static final Class<?> STATE = IllegalStateException.class;

    private Check() {
    }

    static void due(String what, long got, long want) {
        made++;
        if (got != want) {
            wrong++;
            System.out.println(what + " answered " + got + ", due is " + want);
        }
    }

    static void due(String what, boolean got, boolean want) {
        due(what, got ? 1 : 0, want ? 1 : 0);
    }

    static void due(String what, String got, String want) {
        made++;
        if (!got.equals(want)) {
            wrong++;
            System.out.println(what + " is\n  " + got + ", due is\n  " + want);
        }
    }

    /** Asks one thing after the other, from 0 on. */
    static void dueAll(String what, java.util.function.IntUnaryOperator ask, long... want) {
        for (int i = 0; i < want.length; i++) {
            due(what + " " + i, ask.applyAsInt(i), want[i]);
        }
    }

    /** The class itself is compared, as a machine's exception may be a subclass of the due one; null is for none. */
    static void dueThrow(String what, Class<?> want, Call call) {
        made++;
        Class<?> got = null;
        try {
            call.make();
        } catch (RuntimeException e) {
            got = e.getClass();
        }
        if (got != want) {
            wrong++;
            System.out.println(what + " threw " + got + ", due is " + want);
        }
    }

    /** The same, and nothing is changed by it. */
    static void dueThrow(String what, Class<?> want, Steamfield field, Call call) {
        long before = field.digest();
        dueThrow(what, want, call);
        due(what + ": digest behind it", field.digest(), before);
    }

    static void end(String test) {
        System.out.println(test + ": " + made + " checks, " + wrong + " wrong");
        if (wrong != 0) {
            System.exit(1);
        }
    }
}
