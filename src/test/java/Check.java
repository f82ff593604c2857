/** Counts the answers of one test that are not as they are due. */
final class Check {
    private static int asked = 0;
    private static int wrong = 0;
    private static String sentence = "";

    interface Call {
        Object answer();
    }

    /** A call with a number that lies outside what the document allows. */
    interface CallWith {
        Object answer(int number);
    }

    private Check() {
    }

    /** Runs the test of one sentence of the document; what fails in it is told with the sentence. */
    static void sentence(String words, Runnable test) {
        int askedBefore = asked;
        sentence = words + ": ";
        test.run();
        due("answers that the test asks for", asked > askedBefore, true);
        sentence = "";
    }

    static void due(String call, Object got, Object want) {
        asked++;
        if (!got.equals(want)) {
            wrong++;
            System.out.println(sentence + call + " answered " + got + ", due is " + want);
        }
    }

    /** What the call answers, or the plain name of the exception that it throws. */
    static Object outcome(Call call) {
        try {
            return call.answer();
        } catch (RuntimeException e) {
            return e.getClass().getSimpleName();
        }
    }

    /** Numbers that are not least to most: the two next to them, and some far away. */
    static int[] outside(int least, int most) {
        return new int[] {least - 1, most + 1, least - 1000000, most + 1000000, Integer.MIN_VALUE, Integer.MAX_VALUE};
    }

    /** The call must throw an IndexOutOfBoundsException and change nothing that the digest tells. */
    static void noIndex(String name, StampSheets x, Call call) {
        throwsAndKeeps(name, x, call, "IndexOutOfBoundsException");
    }

    static void noArgument(String name, StampSheets x, Call call) {
        throwsAndKeeps(name, x, call, "IllegalArgumentException");
    }

    static void noState(String name, StampSheets x, Call call) {
        throwsAndKeeps(name, x, call, "IllegalStateException");
    }

    /** As noIndex, for each number that is not least to most. */
    static void noIndexOutside(int least, int most, String name, StampSheets x, CallWith call) {
        for (int number : outside(least, most)) {
            noIndex(name + " with " + number, x, () -> call.answer(number));
        }
    }

    static void noArgumentOutside(int least, int most, String name, StampSheets x, CallWith call) {
        for (int number : outside(least, most)) {
            noArgument(name + " with " + number, x, () -> call.answer(number));
        }
    }

    private static void throwsAndKeeps(String name, StampSheets x, Call call, String exception) {
        long before = x.digest();
        due(name, outcome(call), exception);
        due("digest behind " + name, x.digest(), before);
    }

    static void end() {
        System.out.println(asked + " answers, " + wrong + " not as due");
        if (wrong != 0) {
            System.exit(1);
        }
    }
}
