import java.util.Arrays;

/** What the tests share that go through the document by its sentences. */
abstract class Sentences {
    static final int NONE = -1;
    static final int RANGE = -2;
    static final int STATE = -3;
    static final int FULL = -4;
    static final int LEAST = Integer.MIN_VALUE;
    static final int MOST = Integer.MAX_VALUE;

    private static String sentence = "";
    private static int sentences = 0;
    private static int checks = 0;
    private static int wrong = 0;

    interface Call {
        long answer();
    }

    static {
        Watch.start();
    }

    /** The checks that follow belong to this sentence; one without a check is no test. */
    static void says(String where, String words) {
        endSentence();
        sentence = where + ": \"" + words + "\"";
        sentences++;
        checks = 0;
    }

    private static void endSentence() {
        if (sentences > 0 && checks == 0) {
            fault("nothing was checked");
        }
    }

    private static void fault(String what) {
        wrong++;
        System.out.println(sentence + ": " + what);
    }

    static void due(String call, Object got, Object want) {
        checks++;
        if (!got.toString().equals(want.toString())) {
            fault(call + " answered " + got + ", due is " + want);
        }
    }

    /** What a call answers, or the plain name of what it throws. */
    static String outcome(Call call) {
        try {
            return Long.toString(call.answer());
        } catch (RuntimeException e) {
            return isOfTheMachine(e) ? "the machine's " + e : e.getClass().getSimpleName();
        }
    }

    /** The machine's own exceptions tell what went wrong in words of their own. */
    private static boolean isOfTheMachine(RuntimeException e) {
        String words = String.valueOf(e.getMessage());
        return e instanceof NullPointerException
            || e instanceof NegativeArraySizeException
            || e instanceof ClassCastException
            || e instanceof ArrayStoreException
            || words.contains("out of bounds for")
            || words.contains("by zero");
    }

    static void noIndex(String call, Call it) {
        due(call, outcome(it), "IndexOutOfBoundsException");
    }

    static void noByte(String call, Call it) {
        due(call, outcome(it), "ArrayIndexOutOfBoundsException");
    }

    static void noRate(String call, Call it) {
        due(call, outcome(it), "ArithmeticException");
    }

    /** The numbers 1, 2, .. up to so many. */
    static int[] upTo(int count) {
        int[] row = new int[count];
        Arrays.setAll(row, i -> i + 1);
        return row;
    }

    static int[] same(int count, int b) {
        int[] row = new int[count];
        Arrays.fill(row, b);
        return row;
    }

    static String text(int... bytes) {
        return Arrays.toString(bytes).replaceAll("[\\[\\],]", "");
    }

    /** Says how it went, and ends with exit code 1 if an answer was not the one that is due. */
    static void end() {
        endSentence();
        System.out.println(wrong == 0
            ? "all " + sentences + " sentences hold"
            : wrong + " answers are not as due");
        if (wrong != 0) {
            System.exit(1);
        }
    }
}
