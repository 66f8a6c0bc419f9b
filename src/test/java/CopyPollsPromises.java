import java.util.ArrayList;
import java.util.Arrays;
import java.util.List;

/** Each promise of the document by hand: ordinary inputs, the edges it names, and wrong inputs. */
public final class CopyPollsPromises {
    private static final int NONE = -1;
    private static final int RANGE = -2;
    private static final int STATE = -3;
    private static final int FULL = -4;
    private static final int[] NO_INDEX = {-1, 10, 40, 1000, Integer.MAX_VALUE, Integer.MIN_VALUE};

    private static int wrong = 0;

    private interface Call {
        long answer();
    }

    private static void due(int promise, String what, Object got, Object want) {
        if (!got.toString().equals(want.toString())) {
            wrong++;
            System.out.println("promise " + promise + ", " + what + ": answered " + got + ", due is " + want);
        }
    }

    private static String outcome(Call call) {
        try {
            return Long.toString(call.answer());
        } catch (RuntimeException e) {
            return e.getClass().getSimpleName();
        }
    }

    private static CopyPolls house(int copies, int stores) {
        CopyPolls x = new CopyPolls(copies);
        for (int k = 0; k < stores; k++) {
            x.store(k);
        }
        return x;
    }

    private static int put(CopyPolls x, int pack, int... bytes) {
        for (int b : bytes) {
            x.octet(b);
        }
        return x.put(pack);
    }

    private static String loads(CopyPolls x, int stores) {
        StringBuilder text = new StringBuilder();
        for (int s = 0; s < stores; s++) {
            text.append(x.load(s));
        }
        return text.toString();
    }

    /** The bytes of a copy as a text, found by at() alone; "none" without a copy. */
    private static String bytes(CopyPolls x, int store, int file) {
        List<Integer> row = new ArrayList<>();
        for (int i = 0; i < 20; i++) {
            try {
                int b = x.at(store, file, i);
                if (b == NONE) {
                    return "none";
                }
                row.add(b);
            } catch (ArrayIndexOutOfBoundsException e) {
                break;
            }
        }
        return row.toString();
    }

    private static String asked(CopyPolls x, int count) {
        StringBuilder text = new StringBuilder();
        for (int i = 0; i < count; i++) {
            text.append(x.polled(i, 0)).append(':').append(x.polled(i, 1)).append(' ');
        }
        return text.toString().trim();
    }

    private static void newObject() {
        int[] asked = {Integer.MIN_VALUE, -1, 0, 1, 2, 3, 4, 5, 6, Integer.MAX_VALUE};
        int[] held = {1, 1, 1, 1, 2, 3, 4, 5, 5, 5};
        for (int k = 0; k < asked.length; k++) {
            CopyPolls x = house(asked[k], 10);
            due(1, "put", put(x, 0, 1), 0);
            due(1, "copies of CopyPolls(" + asked[k] + ")", x.about(0, 1), held[k]);
        }
        CopyPolls x = new CopyPolls(1);
        due(1, "no stores", x.load(0), NONE);
        due(1, "no files", x.about(0, 0), NONE);
        due(1, "no digest", x.digest(), 0);
        due(1, "nothing polled", outcome(() -> x.polled(0, 0)), "IndexOutOfBoundsException");
        due(1, "nothing collected", house(1, 1).put(0), RANGE);
    }

    private static void store() {
        CopyPolls x = new CopyPolls(1);
        for (int place : NO_INDEX) {
            due(2, "store(" + place + ")", x.store(place), RANGE);
        }
        for (int k = 0; k < 10; k++) {
            due(2, "store " + k, x.store(9 - k), k);
            due(2, "store " + k + " again", x.store(9 - k), STATE);
        }
        due(2, "an eleventh", x.store(3), STATE);
        due(2, "an eleventh out of range", x.store(10), RANGE);
        due(2, "load(9)", x.load(9), 0);
        due(2, "load(10)", x.load(10), NONE);
        due(2, "answers at first", put(x, 0, 1), 0);
    }

    private static void octet() {
        CopyPolls x = house(1, 1);
        due(3, "put", put(x, 0, 0, 1, 127, 128, 255, -1, 256, 511), 0);
        due(3, "bytes", bytes(x, 0, 0), "[0, 1, 127, 128, 255, 255, 0, 255]");
        int[] many = new int[18];
        for (int i = 0; i < many.length; i++) {
            many[i] = i + 1;
        }
        due(3, "put 18", put(x, 0, many), 1);
        due(3, "16 are kept", bytes(x, 0, 1), Arrays.toString(Arrays.copyOf(many, 16)));
        due(3, "put 16", put(x, 0, Arrays.copyOf(many, 16)), 2);
        due(3, "16 of 16", bytes(x, 0, 2), Arrays.toString(Arrays.copyOf(many, 16)));
        due(3, "put 1", put(x, 0, 77), 3);
        due(3, "collected anew", bytes(x, 0, 3), "[77]");
    }

    private static void put() {
        CopyPolls x = house(2, 4);
        due(4, "no bytes", x.put(0), RANGE);
        x.octet(9);
        for (int pack : NO_INDEX) {
            due(4, "put(" + pack + ")", x.put(pack), RANGE);
        }
        due(4, "put(9)", x.put(9), 0);
        due(4, "kept over refusals", bytes(x, 0, 0), "[9]");
        due(4, "collected no more", x.put(9), RANGE);
        due(4, "first by numbers", loads(x, 4), "1100");
        put(x, 0, 1);
        due(4, "fewer copies first", loads(x, 4), "1111");
        x.lose(1, 0);
        x.lose(3, 1);
        due(4, "put", put(x, 0, 2), 2);
        due(4, "the emptier ones", loads(x, 4), "1111");
        due(4, "on store 1", bytes(x, 1, 2), "[2]");
        due(4, "on store 3", bytes(x, 3, 2), "[2]");
        x.answers(0, false);
        x.answers(1, false);
        due(4, "put", put(x, 0, 3), 3);
        due(4, "only what answers", loads(x, 4), "1122");
        x.answers(2, false);
        due(4, "too few answer", put(x, 0, 4), STATE);
        due(4, "range before state", x.put(10), RANGE);
        x.answers(2, true);
        due(4, "again", x.put(0), 4);
        due(4, "what was collected", bytes(x, 3, 4), "[4]");
        putFull();
        putCopiesOfTheirOwn();
    }

    private static void putFull() {
        CopyPolls x = house(1, 2);
        for (int k = 0; k < 40; k++) {
            due(4, "file " + k, put(x, k % 10, k), k);
        }
        due(4, "a 41st", put(x, 0, 1), FULL);
        due(4, "loads", loads(x, 2), "2020");
        due(4, "range before full", x.put(-1), RANGE);
        x.answers(0, false);
        x.answers(1, false);
        due(4, "state before full", x.put(0), STATE);
        x.lose(0, 0);
        x.answers(0, true);
        due(4, "a lost copy frees no number", x.put(0), FULL);
    }

    private static void putCopiesOfTheirOwn() {
        CopyPolls x = house(3, 3);
        put(x, 0, 1, 2);
        put(x, 0, 1, 2);
        x.alter(1, 0, 0, 50);
        due(4, "another store's copy", bytes(x, 0, 0), "[1, 2]");
        due(4, "altered", bytes(x, 1, 0), "[50, 2]");
        due(4, "another file's copy", bytes(x, 1, 1), "[1, 2]");
    }

    private static void answers() {
        CopyPolls x = house(1, 2);
        put(x, 0, 1);
        due(5, "off", x.answers(0, false), 1);
        due(5, "counts no more", x.about(0, 2), 0);
        due(5, "off again", x.answers(0, false), 1);
        due(5, "on", x.answers(0, true), 1);
        due(5, "counts", x.about(0, 2), 1);
        due(5, "no such store", x.answers(2, true), NONE);
        for (int store : NO_INDEX) {
            due(5, "answers(" + store + ")", x.answers(store, false), NONE);
        }
    }

    private static void alter() {
        CopyPolls x = house(1, 2);
        put(x, 0, 200, 100);
        due(6, "before", x.alter(0, 0, 0, 7), 200);
        due(6, "before", x.alter(0, 0, 0, -1), 7);
        due(6, "before", x.alter(0, 0, 1, 256), 100);
        due(6, "bytes", bytes(x, 0, 0), "[255, 0]");
        due(6, "before, 0 .. 255", x.alter(0, 0, 0, 1), 255);
        due(6, "no such byte", x.alter(0, 0, 2, 1), NONE);
        due(6, "no such copy", x.alter(1, 0, 0, 1), NONE);
        due(6, "no such store", x.alter(2, 0, 0, 1), NONE);
        due(6, "no such file", x.alter(0, 1, 0, 1), NONE);
        for (int k : NO_INDEX) {
            due(6, "store " + k, x.alter(k, 0, 0, 1), NONE);
            due(6, "file " + k, x.alter(0, k, 0, 1), NONE);
            due(6, "byte " + k, x.alter(0, 0, k, 1), NONE);
        }
        x.cut(0, 0, 1);
        due(6, "a byte that was cut", x.alter(0, 0, 1, 1), NONE);
        x.answers(0, false);
        due(6, "a store that does not answer", x.alter(0, 0, 0, 3), 1);
    }

    private static void cut() {
        CopyPolls x = house(1, 2);
        put(x, 0, 1, 2, 3, 4);
        due(7, "all stay", x.cut(0, 0, 4), 0);
        due(7, "too many", x.cut(0, 0, 5), RANGE);
        due(7, "less than none", x.cut(0, 0, -1), RANGE);
        due(7, "least", x.cut(0, 0, Integer.MIN_VALUE), RANGE);
        due(7, "most", x.cut(0, 0, Integer.MAX_VALUE), RANGE);
        due(7, "one", x.cut(0, 0, 3), 1);
        due(7, "the last one", bytes(x, 0, 0), "[1, 2, 3]");
        due(7, "more than it has now", x.cut(0, 0, 4), RANGE);
        due(7, "all", x.cut(0, 0, 0), 3);
        due(7, "none left", bytes(x, 0, 0), "[]");
        due(7, "there still", x.load(0), 1);
        due(7, "all of none", x.cut(0, 0, 0), 0);
        due(7, "no such copy", x.cut(1, 0, 0), NONE);
        due(7, "no such copy before range", x.cut(1, 0, -1), NONE);
        for (int k : NO_INDEX) {
            due(7, "store " + k, x.cut(k, 0, 0), NONE);
            due(7, "file " + k, x.cut(0, k, 0), NONE);
        }
    }

    private static void lose() {
        CopyPolls x = house(2, 2);
        put(x, 0, 1);
        due(8, "lost", x.lose(0, 0), 1);
        due(8, "lost already", x.lose(0, 0), NONE);
        due(8, "copies", x.about(0, 1), 1);
        due(8, "loads", loads(x, 2), "01");
        due(8, "bytes", bytes(x, 0, 0), "none");
        x.answers(1, false);
        due(8, "where it does not count", x.lose(1, 0), 1);
        due(8, "the file is there still", x.about(0, 1), 0);
        put(x, 0, 1);
        for (int k : NO_INDEX) {
            due(8, "store " + k, x.lose(k, 0), NONE);
            due(8, "file " + k, x.lose(0, k), NONE);
        }
        due(8, "no such store", x.lose(2, 0), NONE);
        due(8, "no such file", x.lose(0, 1), NONE);
    }

    private static CopyPolls pollHouse() {
        CopyPolls x = house(5, 5);
        put(x, 4, 1);
        put(x, 5, 2);
        put(x, 4, 1, 2, 3);
        return x;
    }

    private static void poll() {
        CopyPolls x = pollHouse();
        due(9, "poll", x.poll(4, 0L), 6);
        due(9, "seed 0", asked(x, 6), "0:4 0:3 0:1 2:4 2:1 2:2");
        x.poll(4, 12345L);
        due(9, "seed 12345", asked(x, 6), "0:0 0:2 0:1 2:1 2:3 2:4");
        x.poll(4, -1L);
        due(9, "seed -1", asked(x, 6), "0:2 0:0 0:1 2:2 2:1 2:0");
        x.poll(4, Long.MIN_VALUE);
        due(9, "least seed", asked(x, 6), "0:4 0:2 0:3 2:2 2:1 2:0");
        x.poll(4, 987654321987654321L);
        due(9, "a long seed", asked(x, 6), "0:2 0:4 0:0 2:3 2:2 2:0");
        x.answers(2, false);
        due(9, "poll of those that count", x.poll(4, 1L), 6);
        due(9, "without store 2", asked(x, 6), "0:1 0:4 0:0 2:4 2:1 2:0");
        x.answers(0, false);
        x.answers(3, false);
        due(9, "poll of two each", x.poll(4, 0L), 4);
        due(9, "all are asked", asked(x, 4), "0:1 0:4 2:4 2:1");
        x.answers(1, false);
        due(9, "poll of one each", x.poll(4, 7L), 2);
        due(9, "one each", asked(x, 2), "0:4 2:4");
        x.answers(4, false);
        due(9, "none answers", x.poll(4, 7L), 0);
        due(9, "an empty package", x.poll(0, 7L), 0);
        for (int pack : NO_INDEX) {
            due(9, "poll(" + pack + ")", x.poll(pack, 1L), RANGE);
        }
        pollLargest();
    }

    private static void pollLargest() {
        CopyPolls x = house(5, 10);
        for (int k = 0; k < 40; k++) {
            put(x, 9, k);
        }
        due(9, "the largest poll", x.poll(9, 99L), 120);
        due(9, "its last file", x.polled(119, 0), 39);
    }

    private static void polled() {
        CopyPolls x = pollHouse();
        x.poll(4, 0L);
        due(10, "file", x.polled(3, 0), 2);
        due(10, "store", x.polled(3, 1), 4);
        due(10, "digest", x.polled(3, 2), 209560);
        due(10, "digest of the first", x.polled(0, 2), (7 * 31 + 1) ^ 1);
        for (int what : new int[] {-1, 3, Integer.MAX_VALUE, Integer.MIN_VALUE}) {
            due(10, "what " + what, x.polled(0, what), NONE);
        }
        for (int i : new int[] {-1, 6, 120, Integer.MAX_VALUE, Integer.MIN_VALUE}) {
            for (int what = 0; what < 3; what++) {
                int asked = what;
                due(10, "polled(" + i + ")", outcome(() -> x.polled(i, asked)), "IndexOutOfBoundsException");
            }
        }
        x.alter(4, 2, 0, 99);
        x.lose(4, 0);
        due(10, "the digest then", x.polled(3, 2), 209560);
        due(10, "a copy that was lost since", x.polled(0, 1), 4);
        x.poll(10, 5L);
        due(10, "a poll that was refused", x.polled(5, 1), 2);
        x.poll(5, 0L);
        due(10, "the latest poll", x.polled(0, 0), 1);
        due(10, "the latest poll's end", outcome(() -> x.polled(3, 0)), "IndexOutOfBoundsException");
        x.poll(0, 0L);
        due(10, "a poll of none", outcome(() -> x.polled(0, 0)), "IndexOutOfBoundsException");
    }

    private static void majority() {
        CopyPolls x = house(4, 4);
        put(x, 0, 1);
        due(11, "all", x.majority(0), 1);
        x.alter(0, 0, 0, 2);
        due(11, "three of four", x.majority(0), 1);
        x.alter(1, 0, 0, 2);
        due(11, "two of four", x.majority(0), 0);
        x.answers(0, false);
        due(11, "two of three that count", x.majority(0), 1);
        x.answers(2, false);
        due(11, "one of two that count", x.majority(0), 0);
        x.answers(1, false);
        due(11, "one of one", x.majority(0), 1);
        x.answers(3, false);
        due(11, "none counts", x.majority(0), 0);
        for (int s = 0; s < 4; s++) {
            x.answers(s, true);
            x.lose(s, 0);
        }
        due(11, "no copies", x.majority(0), 0);
        due(11, "no such file", x.majority(1), NONE);
        for (int file : NO_INDEX) {
            due(11, "majority(" + file + ")", x.majority(file), NONE);
        }
    }

    private static void digest() {
        CopyPolls x = house(3, 3);
        due(12, "at first", x.digest(), 0);
        put(x, 0, 1, 2, 3);
        int[] sixteen = new int[16];
        Arrays.fill(sixteen, 255);
        put(x, 0, sixteen);
        put(x, 0, 255, 255, 255, 255, 255, 255, 255);
        due(12, "before majority()", x.digest(), 0);
        x.majority(0);
        due(12, "1 2 3", x.digest(), 209560);
        x.majority(1);
        due(12, "16 bytes, of 32 bits", x.digest(), -498536169);
        x.majority(2);
        due(12, "7 bytes, of 32 bits", x.digest(), 1243756415);
        x.alter(0, 0, 0, 9);
        x.stale(0, 0);
        x.mend(0);
        x.fill(0);
        x.poll(0, 1L);
        due(12, "majority() alone finds it", x.digest(), 1243756415);
        x.cut(0, 0, 0);
        x.cut(1, 0, 0);
        x.majority(0);
        due(12, "no bytes", x.digest(), 7);
        x.alter(2, 2, 0, 1);
        x.alter(1, 2, 0, 2);
        x.majority(2);
        due(12, "found none", x.digest(), 0);
    }

    private static void mend() {
        CopyPolls x = house(5, 5);
        put(x, 3, 1, 2, 3);
        put(x, 4, 1, 2, 3);
        put(x, 3, 4, 5);
        x.alter(0, 0, 0, 9);
        x.cut(4, 0, 1);
        x.alter(0, 1, 0, 9);
        x.alter(3, 2, 1, 9);
        due(13, "mended", x.mend(3), 3);
        due(13, "altered", bytes(x, 0, 0), "[1, 2, 3]");
        due(13, "cut", bytes(x, 4, 0), "[1, 2, 3]");
        due(13, "another file", bytes(x, 3, 2), "[4, 5]");
        due(13, "another package", bytes(x, 0, 1), "[9, 2, 3]");
        due(13, "nothing to mend", x.mend(3), 0);
        due(13, "an empty package", x.mend(0), 0);
        x.alter(0, 0, 0, 77);
        due(13, "copies of their own", bytes(x, 1, 0), "[1, 2, 3]");
        x.answers(0, false);
        due(13, "what does not count", x.mend(3), 0);
        due(13, "stays", bytes(x, 0, 0), "[77, 2, 3]");
        for (int pack : NO_INDEX) {
            due(13, "mend(" + pack + ")", x.mend(pack), RANGE);
        }
        mendFromTheShorter();
        mendInDanger();
        mendFromTheLeastStore();
    }

    private static void mendFromTheShorter() {
        CopyPolls x = house(3, 3);
        put(x, 0, 1, 2, 3);
        x.cut(1, 0, 1);
        x.cut(2, 0, 1);
        due(13, "from the shorter", x.mend(0), 1);
        due(13, "shorter", bytes(x, 0, 0), "[1]");
    }

    private static void mendInDanger() {
        CopyPolls x = house(2, 2);
        put(x, 0, 1);
        x.alter(1, 0, 0, 2);
        due(13, "in danger", x.mend(0), 0);
        due(13, "in danger, 0", bytes(x, 0, 0), "[1]");
        due(13, "in danger, 1", bytes(x, 1, 0), "[2]");
        x.answers(0, false);
        x.answers(1, false);
        due(13, "none counts", x.mend(0), 0);
    }

    /** The bytes 1 0 and 0 31 have the same DIGEST, so the store that is taken from shows. */
    private static void mendFromTheLeastStore() {
        CopyPolls x = house(3, 3);
        put(x, 0, 1, 0);
        x.alter(1, 0, 0, 0);
        x.alter(1, 0, 1, 31);
        due(13, "the same digest", x.mend(0), 0);
        due(13, "stays as it is", bytes(x, 1, 0), "[0, 31]");
        x.alter(0, 0, 0, 9);
        due(13, "two of three", x.mend(0), 1);
        due(13, "from store 1", bytes(x, 0, 0), "[0, 31]");
        due(13, "store 2 stays", bytes(x, 2, 0), "[1, 0]");
    }

    private static void stale() {
        CopyPolls x = house(3, 4);
        put(x, 0, 1, 0);
        due(14, "as the others", x.stale(0, 0), 0);
        x.alter(0, 0, 0, 9);
        due(14, "another digest", x.stale(0, 0), 1);
        due(14, "of the majority", x.stale(1, 0), 0);
        x.answers(0, false);
        due(14, "where it does not count", x.stale(0, 0), 1);
        x.answers(1, false);
        x.answers(2, false);
        due(14, "none counts", x.stale(0, 0), 0);
        x.answers(0, true);
        due(14, "the only one that counts", x.stale(0, 0), 0);
        due(14, "against the only one", x.stale(1, 0), 1);
        x.answers(1, true);
        due(14, "in danger", x.stale(0, 0), 0);
        due(14, "in danger, the other", x.stale(1, 0), 0);
        x.alter(1, 0, 0, 0);
        x.alter(1, 0, 1, 31);
        x.answers(2, true);
        due(14, "other bytes of that digest", x.stale(1, 0), 0);
        due(14, "no such copy", x.stale(3, 0), NONE);
        due(14, "no such file", x.stale(0, 1), NONE);
        for (int k : NO_INDEX) {
            due(14, "store " + k, x.stale(k, 0), NONE);
            due(14, "file " + k, x.stale(0, k), NONE);
        }
    }

    private static void fill() {
        CopyPolls x = house(3, 4);
        put(x, 0, 1, 2);
        put(x, 1, 3);
        due(15, "placed", loads(x, 4), "2211");
        due(15, "none lacks one", x.fill(3), 0);
        x.lose(0, 0);
        x.lose(1, 1);
        due(15, "one lacks one, one is here", x.fill(3), 1);
        due(15, "bytes", bytes(x, 3, 0), "[1, 2]");
        due(15, "no more than it wants", x.fill(0), 0);
        due(15, "the other one", x.fill(1), 1);
        due(15, "its bytes", bytes(x, 1, 1), "[3]");
        x.alter(3, 0, 0, 200);
        due(15, "a copy of its own", bytes(x, 1, 0), "[1, 2]");
        x.lose(1, 0);
        due(15, "in danger", x.fill(0), 0);
        x.answers(3, false);
        due(15, "not in danger, two copies", x.fill(0), 1);
        due(15, "of those that count", bytes(x, 0, 0), "[1, 2]");
        x.lose(0, 0);
        x.answers(0, false);
        due(15, "does not answer", x.fill(0), STATE);
        due(15, "no such store", x.fill(4), NONE);
        for (int store : NO_INDEX) {
            due(15, "fill(" + store + ")", x.fill(store), NONE);
        }
        fillCountsThoseThatDoNotAnswer();
        fillFromTheLeastStore();
    }

    private static void fillCountsThoseThatDoNotAnswer() {
        CopyPolls x = house(2, 3);
        put(x, 0, 1);
        x.answers(0, false);
        due(15, "whether they count or not", x.fill(2), 0);
        x.lose(0, 0);
        due(15, "one is lost", x.fill(2), 1);
        x.lose(1, 0);
        x.lose(2, 0);
        due(15, "all are lost", x.fill(2), 0);
    }

    private static void fillFromTheLeastStore() {
        CopyPolls x = house(3, 3);
        put(x, 0, 1, 0);
        x.alter(1, 0, 0, 0);
        x.alter(1, 0, 1, 31);
        x.lose(0, 0);
        due(15, "two of one digest", x.fill(0), 1);
        due(15, "from store 1", bytes(x, 0, 0), "[0, 31]");
    }

    private static void move() {
        CopyPolls x = house(2, 4);
        put(x, 0, 1, 2);
        x.alter(0, 0, 1, 9);
        due(16, "moved", x.move(0, 0, 2), 1);
        due(16, "as it is", bytes(x, 2, 0), "[1, 9]");
        due(16, "from", bytes(x, 0, 0), "none");
        due(16, "loads", loads(x, 4), "0110");
        due(16, "copies", x.about(0, 1), 2);
        due(16, "not filled", x.about(0, 3), 0);
        due(16, "no copy there", x.move(0, 0, 3), NONE);
        due(16, "no copy, the same", x.move(0, 0, 0), NONE);
        due(16, "the same", x.move(0, 2, 2), STATE);
        due(16, "has one", x.move(0, 2, 1), STATE);
        x.answers(3, false);
        due(16, "to does not answer", x.move(0, 2, 3), STATE);
        x.answers(3, true);
        x.answers(2, false);
        due(16, "from does not answer", x.move(0, 2, 3), STATE);
        due(16, "none before state", x.move(0, 2, 4), NONE);
        x.answers(2, true);
        due(16, "again", x.move(0, 2, 3), 1);
        due(16, "no such file", x.move(1, 3, 2), NONE);
        for (int k : NO_INDEX) {
            due(16, "file " + k, x.move(k, 3, 2), NONE);
            due(16, "from " + k, x.move(0, k, 2), NONE);
            due(16, "to " + k, x.move(0, 3, k), NONE);
        }
        due(16, "nothing has gone", loads(x, 4), "0101");
    }

    private static void rate() {
        CopyPolls x = house(1, 1);
        put(x, 0, 1);
        due(17, "0 / 1", x.rate(0, 0, 1), 1);
        due(17, "1 / 1", x.rate(0, 1, 1), 1);
        due(17, "1000 / 1000", x.rate(0, 1000, 1000), 1);
        due(17, "999 / 1000", x.rate(0, 999, 1000), 1);
        int[][] bad = {{2, 1}, {-1, 1}, {0, 0}, {0, -1}, {-2, -1}, {1, 1001}, {1001, 1001}, {0, 1001},
            {Integer.MIN_VALUE, 5}, {Integer.MAX_VALUE, 5}, {0, Integer.MIN_VALUE}, {0, Integer.MAX_VALUE}};
        for (int[] r : bad) {
            due(17, r[0] + " / " + r[1], x.rate(0, r[0], r[1]), RANGE);
        }
        due(17, "kept over refusals", x.odds(0, 0), 999);
        due(17, "kept over refusals", x.odds(0, 1), 1000);
        due(17, "another", x.rate(0, 2, 5), 1);
        due(17, "above", x.odds(0, 0), 2);
        due(17, "below", x.odds(0, 1), 5);
        due(17, "no such store", x.rate(1, 1, 2), NONE);
        due(17, "none before range", x.rate(1, 2, 1), NONE);
        for (int store : NO_INDEX) {
            due(17, "rate(" + store + ")", x.rate(store, 1, 2), NONE);
        }
        CopyPolls y = house(1, 1);
        put(y, 0, 1);
        y.rate(0, 5, 2);
        due(17, "refused, no rate", outcome(() -> y.odds(0, 0)), "ArithmeticException");
    }

    private static String odds(CopyPolls x, int file) {
        return outcome(() -> x.odds(file, 0)) + "/" + outcome(() -> x.odds(file, 1));
    }

    private static void odds() {
        CopyPolls x = house(3, 4);
        put(x, 0, 1);
        String none = "ArithmeticException/ArithmeticException";
        due(18, "no rates", odds(x, 0), none);
        x.rate(0, 4, 6);
        x.rate(1, 3, 10);
        due(18, "one without a rate", odds(x, 0), none);
        x.answers(2, false);
        due(18, "of those that count", odds(x, 0), "1/5");
        x.answers(2, true);
        x.rate(2, 0, 9);
        due(18, "nothing", odds(x, 0), "0/1");
        x.rate(2, 7, 7);
        due(18, "surely", odds(x, 0), "1/5");
        x.alter(1, 0, 0, 9);
        due(18, "of the majority", odds(x, 0), "2/3");
        x.answers(0, false);
        due(18, "in danger, all that count", odds(x, 0), "3/10");
        x.answers(1, false);
        x.answers(2, false);
        due(18, "none counts", odds(x, 0), "1/1");
        for (int s = 0; s < 4; s++) {
            x.answers(s, true);
        }
        x.lose(0, 0);
        x.lose(1, 0);
        x.lose(2, 0);
        due(18, "no copies", odds(x, 0), "1/1");
        due(18, "no such file", odds(x, 1), "-1/-1");
        for (int file : NO_INDEX) {
            due(18, "odds(" + file + ")", odds(x, file), "-1/-1");
        }
        oddsOfFive();
        oddsWithoutRates();
    }

    private static void oddsOfFive() {
        CopyPolls x = house(5, 5);
        put(x, 0, 1);
        for (int s = 0; s < 5; s++) {
            x.rate(s, 997, 1000);
        }
        due(18, "five", odds(x, 0), "985089730404757/1000000000000000");
        for (int side : new int[] {1, 2, -1, Integer.MIN_VALUE, Integer.MAX_VALUE}) {
            due(18, "side " + side, x.odds(0, side), 1000000000000000L);
        }
        x.rate(0, 1, 3);
        x.rate(1, 3, 1000);
        due(18, "in least terms", odds(x, 0), "991026973/1000000000000");
    }

    private static void oddsWithoutRates() {
        CopyPolls x = house(3, 3);
        put(x, 0, 1);
        x.rate(0, 0, 1);
        x.rate(2, 1, 2);
        due(18, "no rate, another is 0", outcome(() -> x.odds(0, 0)), "ArithmeticException");
        x.alter(1, 0, 0, 9);
        due(18, "the stale one needs none", odds(x, 0), "0/1");
        x.answers(0, false);
        due(18, "in danger it needs one", outcome(() -> x.odds(0, 1)), "ArithmeticException");
    }

    private static void at() {
        CopyPolls x = house(1, 2);
        put(x, 0, 0, 128, 255);
        due(19, "0", x.at(0, 0, 0), 0);
        due(19, "128", x.at(0, 0, 1), 128);
        due(19, "255", x.at(0, 0, 2), 255);
        for (int i : new int[] {-1, 3, 15, 16, Integer.MAX_VALUE, Integer.MIN_VALUE}) {
            due(19, "byte " + i, outcome(() -> x.at(0, 0, i)), "ArrayIndexOutOfBoundsException");
            due(19, "byte " + i + " of no copy", outcome(() -> x.at(1, 0, i)), NONE);
        }
        due(19, "no such copy", x.at(1, 0, 0), NONE);
        due(19, "no such file", x.at(0, 1, 0), NONE);
        for (int k : NO_INDEX) {
            due(19, "store " + k, x.at(k, 0, 0), NONE);
            due(19, "file " + k, x.at(0, k, 0), NONE);
        }
        x.cut(0, 0, 2);
        due(19, "a byte that was cut", outcome(() -> x.at(0, 0, 2)), "ArrayIndexOutOfBoundsException");
        x.answers(0, false);
        due(19, "a store that does not answer", x.at(0, 0, 1), 128);
    }

    private static void about() {
        CopyPolls x = house(3, 4);
        put(x, 9, 1, 2);
        put(x, 0, 3);
        due(20, "package", x.about(0, 0), 9);
        due(20, "package", x.about(1, 0), 0);
        due(20, "copies", x.about(0, 1), 3);
        due(20, "counting", x.about(0, 2), 3);
        due(20, "renewed", x.about(0, 3), 0);
        x.answers(1, false);
        due(20, "copies", x.about(0, 1), 3);
        due(20, "counting", x.about(0, 2), 2);
        x.answers(1, true);
        x.alter(1, 0, 0, 9);
        x.mend(9);
        due(20, "mended", x.about(0, 3), 1);
        x.mend(9);
        due(20, "not mended", x.about(0, 3), 1);
        x.lose(0, 0);
        x.fill(3);
        due(20, "filled", x.about(0, 3), 2);
        x.move(0, 3, 0);
        due(20, "moved", x.about(0, 3), 2);
        due(20, "the other file", x.about(1, 3), 0);
        due(20, "no such file", x.about(2, 0), NONE);
        for (int k : NO_INDEX) {
            due(20, "file " + k, x.about(k, 0), NONE);
            due(20, "what " + k, x.about(0, k), NONE);
        }
        due(20, "what 4", x.about(0, 4), NONE);
    }

    /** As many stores and files as there can be: the last ones are there, and none beyond them. */
    private static void fullHouse() {
        CopyPolls x = house(5, 10);
        for (int k = 0; k < 40; k++) {
            put(x, 7, k, 1);
        }
        for (int s = 0; s < 10; s++) {
            x.rate(s, 1, 2);
        }
        due(21, "each store's load", loads(x, 10), "20".repeat(10));
        due(19, "the last file", bytes(x, 9, 39), "[39, 1]");
        due(6, "the last file", x.alter(9, 39, 0, 200), 39);
        due(14, "the last file", x.stale(9, 39), 1);
        due(13, "the last file", x.mend(7), 1);
        due(8, "the last file", x.lose(9, 39), 1);
        due(15, "the last file", x.fill(9), 1);
        due(16, "the last file", x.move(39, 9, 0), 1);
        due(20, "the last file", x.about(39, 3), 2);
        due(11, "the last file", x.majority(39), 1);
        due(12, "the last file", x.digest(), ((7 * 31 + 39) * 31 + 1) ^ 2);
        due(18, "the last file", odds(x, 39), "1/32");
        due(19, "beyond", x.at(9, 40, 0), NONE);
        due(6, "beyond", x.alter(9, 40, 0, 1), NONE);
        due(14, "beyond", x.stale(9, 40), NONE);
        due(8, "beyond", x.lose(10, 39), NONE);
        due(16, "beyond", x.move(40, 9, 0), NONE);
        due(20, "beyond", x.about(40, 0), NONE);
        due(11, "beyond", x.majority(40), NONE);
        due(18, "beyond", odds(x, 40), "-1/-1");
        due(15, "beyond", x.fill(10), NONE);
        due(21, "beyond", x.load(10), NONE);
    }

    private static void load() {
        CopyPolls x = house(2, 3);
        due(21, "at first", loads(x, 3), "000");
        put(x, 0, 1);
        put(x, 0, 1);
        due(21, "two files", loads(x, 3), "211");
        x.answers(0, false);
        due(21, "a store that does not answer", x.load(0), 2);
        x.lose(0, 1);
        due(21, "one lost", x.load(0), 1);
        due(21, "filled", x.fill(1), 1);
        due(21, "after filling", loads(x, 3), "121");
        due(21, "no such store", x.load(3), NONE);
        for (int store : NO_INDEX) {
            due(21, "load(" + store + ")", x.load(store), NONE);
        }
    }

    public static void main(String[] args) {
        Watch.start();
        newObject();
        store();
        octet();
        put();
        answers();
        alter();
        cut();
        lose();
        poll();
        polled();
        majority();
        digest();
        mend();
        stale();
        fill();
        move();
        rate();
        odds();
        at();
        about();
        load();
        fullHouse();
        System.out.println(wrong == 0 ? "every promise is kept" : wrong + " answers are not as due");
        if (wrong != 0) {
            System.exit(1);
        }
    }
}
