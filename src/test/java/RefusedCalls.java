import java.util.ArrayList;
import java.util.List;

/**
 * Each refused call, with the answer or the exception that its promise names, changes nothing: a
 * house that was refused something looks like one that was not asked.
 */
public final class RefusedCalls extends Sentences {
    private static final int[] PLACES = {0, 3, 6, 9};

    private interface Refused {
        long of(House x);
    }

    /**
     * Files of 3, 2 and 1 bytes with two copies each on the stores 0 1, 2 3 and 0 1: file 0 in
     * DANGER, file 2 with one copy left, store 3 does not ANSWER, stores 0 and 3 have RATES, there
     * was a poll and a majority, and two bytes are collected.
     */
    private static House scene() {
        House x = new House(2);
        for (int place : PLACES) {
            x.store(place);
        }
        x.file(1, 1, 2, 3);
        x.file(1, 0, 31);
        x.file(9, 7);
        x.alter(1, 0, 2, 200);
        x.cut(2, 1, 1);
        x.lose(1, 2);
        x.rate(0, 2, 6);
        x.rate(3, 1, 1000);
        x.poll(1, 5L);
        x.majority(2);
        x.answers(3, false);
        x.octet(8);
        x.octet(9);
        return x;
    }

    /** All that calls tell of the scene; what is collected and which places are free come last. */
    private static String look(House x, boolean withDigest) {
        List<String> seen = new ArrayList<>();
        seen.add(withDigest ? "digest " + x.digest() : "");
        seen.add("asked " + x.asked());
        for (int i = 0; i < 4; i++) {
            int it = i;
            seen.add("digest then " + outcome(() -> x.polled(it, 2)));
        }
        for (int file = 0; file < 4; file++) {
            int it = file;
            for (int what = 0; what < 4; what++) {
                seen.add("about " + x.about(file, what));
            }
            seen.add("odds " + outcome(() -> x.odds(it, 0)) + "/" + outcome(() -> x.odds(it, 1)));
            for (int store = 0; store < 5; store++) {
                seen.add("stale " + x.stale(store, file) + " bytes " + x.bytes(store, file));
            }
        }
        seen.add("loads " + x.loads(5));
        seen.add("put " + x.put(4) + " on " + x.loads(5) + ": " + x.bytes(1, 3));
        for (int place = 0; place < 10; place++) {
            seen.add("store " + x.store(place));
        }
        seen.addAll(ratesOn(x));
        return String.join("\n", seen);
    }

    /** The only copy of file 2 goes from store to store, so that its chance tells each store's RATE. */
    private static List<String> ratesOn(House x) {
        List<String> seen = new ArrayList<>();
        x.answering("++++");
        for (int store = 0; store < 4; store++) {
            if (store > 0) {
                seen.add("move " + x.move(2, store - 1, store));
            }
            seen.add("rate " + outcome(() -> x.odds(2, 0)) + "/" + outcome(() -> x.odds(2, 1)));
        }
        return seen;
    }

    private static void refused(String call, Refused it, Object want) {
        House x = scene();
        due(call, outcome(() -> it.of(x)), want);
        due("all behind " + call, look(x, true), look(scene(), true));
    }

    private static void store() {
        says("Promise 2", "RANGE; STATE if there is one at that place (and no store comes)");
        refused("store(-1)", x -> x.store(-1), RANGE);
        refused("store(10)", x -> x.store(10), RANGE);
        refused("store(0)", x -> x.store(0), STATE);
        refused("store(9)", x -> x.store(9), STATE);
    }

    private static void put() {
        says("Promise 4", "RANGE; STATE (and no file comes, and what is collected stays)");
        refused("put(-1)", x -> x.put(-1), RANGE);
        refused("put(10)", x -> x.put(10), RANGE);
        House few = House.of(3, 3);
        few.answers(2, false);
        due("put where too few ANSWER", few.file(0, 5, 6), STATE);
        due("about(0, 0)", few.about(0, 0), NONE);
        due("loads", few.loads(3), "0 0 0");
        few.answers(2, true);
        few.octet(7);
        due("put", few.put(0), 0);
        due("bytes", few.bytes(2, 0), "5 6 7");
        House bare = House.of(1, 1);
        due("put of no bytes", bare.put(0), RANGE);
        due("about(0, 0)", bare.about(0, 0), NONE);
        due("load(0)", bare.load(0), 0);
    }

    private static void putFull() {
        says("Promise 4", "FULL (and no file comes)");
        House x = House.of(1, 2);
        for (int file = 0; file < 40; file++) {
            x.file(file % 10, file);
        }
        due("put", x.file(5, 77), FULL);
        due("loads", x.loads(2), "20 20");
        for (int file = 0; file < 40; file++) {
            due("package of file " + file, x.about(file, 0), file % 10);
            due("copies of file " + file, x.about(file, 1), 1);
            due("byte of file " + file, x.at(file % 2, file, 0), file);
        }
        due("about(40, 0)", x.about(40, 0), NONE);
    }

    private static void answers() {
        says("Promise 5", "NONE (and each answers as before)");
        for (int store : new int[] {-1, 4, 10}) {
            refused("answers(" + store + ", true)", x -> x.answers(store, true), NONE);
            refused("answers(" + store + ", false)", x -> x.answers(store, false), NONE);
        }
    }

    private static void alter() {
        says("Promise 6", "NONE if there is no such copy or byte (and no byte is another one)");
        refused("no such store", x -> x.alter(4, 0, 0, 99), NONE);
        refused("no such file", x -> x.alter(0, 3, 0, 99), NONE);
        refused("no such copy", x -> x.alter(2, 0, 0, 99), NONE);
        refused("no such byte", x -> x.alter(0, 0, 3, 99), NONE);
        refused("no such byte", x -> x.alter(0, 0, -1, 99), NONE);
        House cut = House.of(3, 3);
        cut.file(0, 1, 2);
        cut.cut(0, 0, 1);
        due("a byte that was cut", cut.alter(0, 0, 1, 99), NONE);
        due("mend", cut.mend(0), 1);
        due("bytes", cut.bytes(0, 0), "1 2");
    }

    private static void cut() {
        says("Promise 7", "NONE; RANGE (and nothing is cut)");
        refused("no such store", x -> x.cut(4, 0, 0), NONE);
        refused("no such file", x -> x.cut(0, 3, 0), NONE);
        refused("no such copy", x -> x.cut(2, 0, 0), NONE);
        refused("less than none", x -> x.cut(0, 0, -1), RANGE);
        refused("more than all", x -> x.cut(0, 0, 4), RANGE);
        refused("more than was left", x -> x.cut(2, 1, 2), RANGE);
    }

    private static void lose() {
        says("Promise 8", "NONE (and nothing is lost)");
        refused("no such store", x -> x.lose(4, 0), NONE);
        refused("no such file", x -> x.lose(0, 3), NONE);
        refused("no such copy", x -> x.lose(2, 0), NONE);
    }

    private static void poll() {
        says("Promises 9 and 10", "RANGE; IndexOutOfBoundsException; NONE (and the latest poll stays)");
        refused("poll(-1, 0)", x -> x.poll(-1, 0L), RANGE);
        refused("poll(10, 0)", x -> x.poll(10, 0L), RANGE);
        refused("polled(4, 0)", x -> x.polled(4, 0), "IndexOutOfBoundsException");
        refused("polled(-1, 0)", x -> x.polled(-1, 0), "IndexOutOfBoundsException");
        refused("polled(0, 3)", x -> x.polled(0, 3), NONE);
        refused("polled(0, -1)", x -> x.polled(0, -1), NONE);
    }

    /** Whether digest() tells 0 behind it, or what it told before, the document leaves open. */
    private static void majority() {
        says("Promise 11", "NONE (and nothing else changes)");
        for (int file : new int[] {-1, 3, 40}) {
            House x = scene();
            due("majority(" + file + ")", x.majority(file), NONE);
            due("all behind it", look(x, false), look(scene(), false));
        }
    }

    private static void mend() {
        says("Promise 13", "RANGE (and nothing is MENDED)");
        refused("mend(-1)", x -> x.mend(-1), RANGE);
        refused("mend(10)", x -> x.mend(10), RANGE);
    }

    private static void mendInDanger() {
        says("Promise 13", "All files are MENDED (none in DANGER is)");
        refused("mend(1)", x -> x.mend(1), 0);
    }

    private static void stale() {
        says("Promise 14", "NONE (and to ask changes nothing)");
        refused("no such store", x -> x.stale(4, 0), NONE);
        refused("no such file", x -> x.stale(0, 3), NONE);
        refused("no such copy", x -> x.stale(2, 0), NONE);
        refused("one in DANGER", x -> x.stale(0, 0), 0);
        refused("one on a store that does not ANSWER", x -> x.stale(3, 1), 1);
    }

    private static void fill() {
        says("Promise 15", "NONE; STATE if it does not ANSWER (and nothing is filled)");
        refused("fill(-1)", x -> x.fill(-1), NONE);
        refused("fill(4)", x -> x.fill(4), NONE);
        refused("fill(3)", x -> x.fill(3), STATE);
    }

    private static void move() {
        says("Promise 16", "NONE; STATE (and nothing goes)");
        refused("no such file", x -> x.move(3, 0, 1), NONE);
        refused("no such copy", x -> x.move(0, 2, 1), NONE);
        refused("from no store", x -> x.move(0, 4, 1), NONE);
        refused("to no store", x -> x.move(0, 0, 4), NONE);
        refused("the same", x -> x.move(0, 0, 0), STATE);
        refused("from does not ANSWER", x -> x.move(1, 3, 0), STATE);
        refused("to does not ANSWER", x -> x.move(0, 0, 3), STATE);
        refused("the other one has one", x -> x.move(0, 0, 1), STATE);
    }

    private static void rate() {
        says("Promise 17", "NONE, RANGE (and each RATE stays)");
        refused("no such store", x -> x.rate(4, 1, 2), NONE);
        refused("up below 0", x -> x.rate(0, -1, 5), RANGE);
        refused("up above down", x -> x.rate(0, 6, 5), RANGE);
        refused("down below 1", x -> x.rate(0, 0, 0), RANGE);
        refused("down above 1000", x -> x.rate(0, 1, 1001), RANGE);
        refused("a store that has none", x -> x.rate(1, 2, 1), RANGE);
    }

    private static void odds() {
        says("Promise 18", "NONE. ArithmeticException (and to ask changes nothing)");
        refused("no such file", x -> x.odds(3, 0), NONE);
        refused("no RATE", x -> x.odds(0, 0), "ArithmeticException");
        refused("least terms", x -> x.odds(2, 0), 1);
    }

    private static void at() {
        says("Promise 19", "ArrayIndexOutOfBoundsException; NONE (and to ask changes nothing)");
        refused("no such byte", x -> x.at(0, 0, 3), "ArrayIndexOutOfBoundsException");
        refused("no such byte", x -> x.at(0, 0, -1), "ArrayIndexOutOfBoundsException");
        refused("no such copy", x -> x.at(2, 0, 0), NONE);
        refused("no such store", x -> x.at(4, 0, 0), NONE);
        refused("no such file", x -> x.at(0, 3, 0), NONE);
    }

    private static void aboutAndLoad() {
        says("Promises 20 and 21", "NONE (and to ask changes nothing)");
        refused("about(3, 0)", x -> x.about(3, 0), NONE);
        refused("about(0, 4)", x -> x.about(0, 4), NONE);
        refused("about(0, -1)", x -> x.about(0, -1), NONE);
        refused("load(4)", x -> x.load(4), NONE);
        refused("load(-1)", x -> x.load(-1), NONE);
    }

    public static void main(String[] args) {
        store();
        put();
        putFull();
        answers();
        alter();
        cut();
        lose();
        poll();
        majority();
        mend();
        mendInDanger();
        stale();
        fill();
        move();
        rate();
        odds();
        at();
        aboutAndLoad();
        end();
    }
}
