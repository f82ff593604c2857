/** Counts the answers of one test that are not as they are due. */
final class Check {
    private static int asked = 0;
    private static int wrong = 0;

    interface Call {
        Object answer();
    }

    private Check() {
    }

    static void due(String call, Object got, Object want) {
        asked++;
        if (!got.equals(want)) {
            wrong++;
            System.out.println(call + " answered " + got + ", due is " + want);
        }
    }

    /** What the call answers, or the plain name of the exception that it throws. */
    static Object outcome(Call call) {
        try {
            return call.answer();
        } catch (RuntimeException e) {
            return e.getClass().getSimpleName();
        }
    }

    /** The call must throw an IndexOutOfBoundsException and change nothing that the digest tells. */
    static void noIndex(String name, StampSheets x, Call call) {
        throwsAndKeeps(name, x, call, "IndexOutOfBoundsException");
    }

    static void noArgument(String name, StampSheets x, Call call) {
        throwsAndKeeps(name, x, call, "IllegalArgumentException");
    }

    static void noState(String name, StampSheets x, Call call) {
        throwsAndKeeps(name, x, call, "IllegalStateException");
    }

    private static void throwsAndKeeps(String name, StampSheets x, Call call, String exception) {
        long before = x.digest();
        due(name, outcome(call), exception);
        due("digest behind " + name, x.digest(), before);
    }

    static void end() {
        System.out.println(asked + " answers, " + wrong + " not as due");
        if (wrong != 0) {
            System.exit(1);
        }
    }
}
