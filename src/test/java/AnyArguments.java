/**
 * Every call with all kinds of numbers, in houses from the emptiest to the fullest: its answer is one
 * that its promise knows, and what it throws is what its promise names, never the machine's own.
 */
public final class AnyArguments extends Sentences {
    private static final int[] NUMBERS = {LEAST, LEAST + 1, -1000, -4, -1, 0, 1, 2, 3, 4, 5, 9, 10, 15, 16, 17,
        39, 40, 41, 119, 120, 255, 256, 1000, 1001, MOST - 1, MOST};
    private static final long[] SEEDS = {Long.MIN_VALUE, -1L, 0L, 1L, Long.MAX_VALUE};
    private static final int KINDS = 5;

    private static House house = null;
    private static int kind = 0;

    /** A house of the kind that is tried, made anew before its calls run out. */
    private static House any() {
        if (house == null || house.calls() >= House.MOST_CALLS) {
            house = made(kind);
        }
        return house;
    }

    private static House made(int kind) {
        switch (kind) {
            case 0:
                return new House(1);
            case 1:
                return House.of(2, 3);
            case 2:
                return busy(3, 4, 3);
            case 3:
                return silent();
            default:
                return busy(5, 10, 40);
        }
    }

    private static House busy(int copies, int stores, int files) {
        House x = House.of(copies, stores);
        for (int file = 0; file < files; file++) {
            x.file(file % 3, file, 1);
        }
        for (int store = 0; store < stores; store += 2) {
            x.rate(store, store, 1000 - store);
        }
        x.alter(0, 0, 0, 255);
        x.cut(1, 0, 0);
        x.lose(2, 0);
        x.poll(0, 1L);
        x.majority(1);
        x.octet(7);
        return x;
    }

    /** All that was put is there, and no store answers. */
    private static House silent() {
        House x = busy(4, 4, 5);
        x.answering("----");
        return x;
    }

    /** An answer from low to high, or one of those that refuse. */
    private static void within(String call, Call it, long low, long high, String... refusals) {
        String got = outcome(it);
        for (String refusal : refusals) {
            if (got.equals(refusal)) {
                due(call, got, got);
                return;
            }
        }
        boolean isNumber = got.matches("-?[0-9]+");
        boolean fits = isNumber && Long.parseLong(got) >= low && Long.parseLong(got) <= high;
        due(call, fits ? "fit" : got, "fit");
    }

    private static void callsOfOne(int a) {
        within("store(" + a + ")", () -> any().store(a), 0, 9, "-2", "-3", "-4");
        within("put(" + a + ")", () -> any().put(a), 0, 39, "-2", "-3", "-4");
        within("majority(" + a + ")", () -> any().majority(a), 0, 1, "-1");
        within("mend(" + a + ")", () -> any().mend(a), 0, 200, "-2");
        within("fill(" + a + ")", () -> any().fill(a), 0, 40, "-1", "-3");
        within("load(" + a + ")", () -> any().load(a), 0, 40, "-1");
        within("octet(" + a + ")", () -> {
            any().octet(a);
            return 0;
        }, 0, 0);
        within("digest()", () -> any().digest(), LEAST, MOST);
        within("answers(" + a + ", true)", () -> any().answers(a, true), 1, 1, "-1");
        for (long seed : SEEDS) {
            within("poll(" + a + ", " + seed + ")", () -> any().poll(a, seed), 0, 120, "-2");
        }
        within("answers(" + a + ", false)", () -> any().answers(a, false), 1, 1, "-1");
    }

    private static void callsOfTwo(int a, int b) {
        String of = "(" + a + ", " + b + ")";
        within("polled" + of, () -> any().polled(a, b), LEAST, MOST, "IndexOutOfBoundsException");
        within("stale" + of, () -> any().stale(a, b), 0, 1, "-1");
        within("odds" + of, () -> any().odds(a, b), 0, 1000000000000000L, "-1", "ArithmeticException");
        within("about" + of, () -> any().about(a, b), 0, 512, "-1");
        within("lose" + of, () -> any().lose(a, b), 1, 1, "-1");
    }

    private static void callsOfThree(int a, int b, int c) {
        String of = "(" + a + ", " + b + ", " + c + ")";
        within("at" + of, () -> any().at(a, b, c), 0, 255, "-1", "ArrayIndexOutOfBoundsException");
        within("move" + of, () -> any().move(a, b, c), 1, 1, "-1", "-3");
        within("rate" + of, () -> any().rate(a, b, c), 1, 1, "-1", "-2");
        within("alter" + of, () -> any().alter(a, b, c, a), 0, 255, "-1");
        within("cut" + of, () -> any().cut(a, b, c), 0, 16, "-1", "-2");
    }

    private static void everyCall() {
        house = null;
        for (int a : NUMBERS) {
            callsOfOne(a);
            for (int b : NUMBERS) {
                callsOfTwo(a, b);
                for (int c : NUMBERS) {
                    callsOfThree(a, b, c);
                }
            }
        }
    }

    public static void main(String[] args) {
        for (kind = 0; kind < KINDS; kind++) {
            says("Kind " + kind + " of house", "A call throws exactly what and where the document says");
            everyCall();
        }
        for (int copies : NUMBERS) {
            says("CopyPolls(" + copies + ")", "A new object, for any number of copies");
            due("load(0)", new House(copies).load(0), NONE);
        }
        end();
    }
}
