/** The sentences of the promises 1 to 21 that name a boundary, each with a test of its own. */
public final class BoundsOfPromises extends Sentences {
    private static final String NO_RATE = "ArithmeticException";

    /** A file 0 of package 0 with one byte on each store from 0 on, digit k being store k's byte. */
    private static House voting(String digits) {
        House x = House.of(digits.length(), digits.length());
        x.file(0, 0);
        for (int store = 0; store < digits.length(); store++) {
            x.alter(store, 0, 0, digits.charAt(store) - '0');
        }
        return x;
    }

    private static int digestOfOne(int b) {
        return (7 * 31 + b) ^ 1;
    }

    // Promise 1

    private static void nearestCopies() {
        says("Promise 1", "what is less or more than 1 .. 5 is the nearest");
        int[] asked = {LEAST, -5, -1, 0, 1, 2, 3, 4, 5, 6, 7, 10, MOST};
        int[] held = {1, 1, 1, 1, 1, 2, 3, 4, 5, 5, 5, 5, 5};
        for (int k = 0; k < asked.length; k++) {
            House x = House.of(asked[k], 10);
            x.file(0, 1);
            due("copies of CopyPolls(" + asked[k] + ")", x.about(0, 1), held[k]);
        }
    }

    private static void nothingAtFirst() {
        says("Promise 1", "no stores, no files");
        House x = new House(1);
        due("load(0)", x.load(0), NONE);
        due("answers(0, true)", x.answers(0, true), NONE);
        due("about(0, 0)", x.about(0, 0), NONE);
        due("majority(0)", x.majority(0), NONE);
        due("poll(0, 0)", x.poll(0, 0L), 0);
        due("mend(0)", x.mend(0), 0);
        due("the first store", x.store(5), 0);
        due("the first file", x.file(5, 1), 0);
    }

    // Promise 2: store

    private static void storeNumbers() {
        says("Promise 2", "A store more at a PLACE: its number");
        House x = new House(1);
        for (int k = 0; k < 10; k++) {
            due("store(" + (k * 7 % 10) + ")", x.store(k * 7 % 10), k);
        }
    }

    private static void storeOutOfRange() {
        says("Promise 2", "RANGE");
        House x = new House(1);
        for (int place : new int[] {LEAST, -1, 10, MOST}) {
            due("store(" + place + ")", x.store(place), RANGE);
        }
        due("store(0), the first after all", x.store(0), 0);
        due("store(9)", x.store(9), 1);
    }

    private static void storeAtATakenPlace() {
        says("Promise 2", "STATE if there is one at that place");
        House x = new House(1);
        for (int place = 9; place >= 0; place--) {
            due("store(" + place + ")", x.store(place), 9 - place);
            for (int taken = 9; taken >= place; taken--) {
                due("store(" + taken + ") again", x.store(taken), STATE);
            }
        }
        x.answers(0, false);
        due("store(9), whose store does not answer", x.store(9), STATE);
    }

    /** Ten stores take all ten places: one more is refused as its place is taken, before it is FULL. */
    private static void storesFull() {
        says("Promise 2", "STATE if there is one at that place; FULL");
        House x = House.of(1, 10);
        for (int place = 0; place < 10; place++) {
            due("an eleventh at " + place, x.store(place), STATE);
        }
        due("an eleventh at -1", x.store(-1), RANGE);
        due("an eleventh at 10", x.store(10), RANGE);
        due("load(10)", x.load(10), NONE);
    }

    // Promise 3: octet

    private static void sixteenthByte() {
        says("Promise 3", "A byte more is collected; beyond 16 it is lost");
        for (int size : new int[] {1, 15, 16, 17, 18, 300}) {
            House x = House.of(1, 1);
            x.file(0, upTo(size));
            due("bytes of " + size, x.bytes(0, 0), text(upTo(Math.min(16, size))));
            due("put once more", x.put(0), RANGE);
            x.file(0, 99);
            due("the next file", x.bytes(0, 1), "99");
            x.file(0, upTo(16));
            due("16 once more", x.bytes(0, 2), text(upTo(16)));
        }
    }

    private static void leastAndMostByte() {
        says("Promise 3", "A byte (0 .. 255)");
        House x = House.of(1, 1);
        x.file(0, 0, 255, 128, 127);
        due("bytes", x.bytes(0, 0), "0 255 128 127");
        x.file(0, 256, -1, 257, LEAST, MOST);
        due("the lowest 8 bits of others", x.bytes(0, 1), "0 255 1 0 255");
    }

    // Promise 4: put

    private static void eachStoreGetsOne() {
        says("Promise 4", "on the first COPIES stores that ANSWER, in THE ORDER (each gets one)");
        String[] loads = {"1 0 0 0 0 0 0 0 0 0", "1 1 0 0 0 0 0 0 0 0", "1 1 1 0 0 0 0 0 0 0",
            "1 1 1 1 0 0 0 0 0 0", "1 1 1 1 1 0 0 0 0 0"};
        for (int copies = 1; copies <= 5; copies++) {
            House x = House.of(copies, 10);
            due("put(0)", x.file(0, 1), 0);
            due("loads", x.loads(10), loads[copies - 1]);
        }
        House last = House.of(5, 10);
        last.answering("-----+++++");
        last.file(0, 8);
        due("loads of the last five", last.loads(10), "0 0 0 0 0 1 1 1 1 1");
        due("bytes on the last", last.bytes(9, 0), "8");
    }

    private static void nothingCollectedAnyMore() {
        says("Promise 4", "nothing is collected any more");
        House x = House.of(1, 1);
        due("put of 16", x.file(0, upTo(16)), 0);
        due("put of none", x.put(0), RANGE);
        due("put of one", x.file(0, 200), 1);
        due("its bytes", x.bytes(0, 1), "200");
        due("the bytes before", x.bytes(0, 0), text(upTo(16)));
    }

    private static void putOutOfRange() {
        says("Promise 4", "RANGE (a package, no bytes)");
        House x = House.of(1, 1);
        for (int pack : new int[] {0, 9, -1, 10, LEAST, MOST}) {
            due("put(" + pack + ") of no bytes", x.put(pack), RANGE);
        }
        x.octet(0);
        for (int pack : new int[] {LEAST, -1, 10, MOST}) {
            due("put(" + pack + ")", x.put(pack), RANGE);
        }
        due("put(9)", x.put(9), 0);
        x.octet(0);
        due("put(0)", x.put(0), 1);
    }

    private static void tooFewStores() {
        says("Promise 4", "STATE if there are not so many stores that ANSWER");
        for (int copies = 1; copies <= 5; copies++) {
            House x = new House(copies);
            x.octet(copies);
            for (int stores = 0; stores < copies; stores++) {
                due("put on " + stores + " of " + copies, x.put(0), STATE);
                x.store(stores);
            }
            x.answers(0, false);
            due("put where one does not answer", x.put(0), STATE);
            x.answers(0, true);
            due("put on " + copies, x.put(0), 0);
            due("what was collected", x.bytes(copies - 1, 0), copies);
        }
    }

    private static void filesFull() {
        says("Promise 4", "FULL");
        House x = House.of(5, 5);
        for (int file = 0; file < 39; file++) {
            x.file(0, 1);
        }
        due("the 40th", x.file(9, 2), 39);
        due("a 41st", x.file(9, 3), FULL);
        due("and once more", x.put(0), FULL);
        due("a package that can't be", x.put(10), RANGE);
        due("loads", x.loads(5), "40 40 40 40 40");
        x.lose(0, 0);
        due("a lost copy makes no room", x.put(0), FULL);
        x.answers(0, false);
        due("too few stores and no room", x.put(0), STATE);
    }

    private static void fullWithoutBytes() {
        says("Promise 4", "RANGE (a package, no bytes); .. FULL");
        House x = House.of(1, 1);
        for (int file = 0; file < 40; file++) {
            x.file(0, 1);
        }
        due("put of no bytes, no room", x.put(0), RANGE);
        due("put of one, no room", x.file(0, 1), FULL);
    }

    // Promise 5: answers

    private static void answersTwice() {
        says("Promise 5", "A store ANSWERS, or not: 1 (as it did before too)");
        House x = House.of(1, 1);
        x.file(0, 1);
        boolean[] on = {true, false, false, true, true};
        for (boolean to : on) {
            due("answers(0, " + to + ")", x.answers(0, to), 1);
            due("about(0, 2)", x.about(0, 2), to ? 1 : 0);
            due("about(0, 1)", x.about(0, 1), 1);
        }
    }

    private static void answersOfNone() {
        says("Promise 5", "NONE");
        House none = new House(1);
        due("answers(0, true)", none.answers(0, true), NONE);
        House x = House.of(1, 3);
        for (int store : new int[] {LEAST, -1, 3, 9, 10, MOST}) {
            due("answers(" + store + ", false)", x.answers(store, false), NONE);
            due("answers(" + store + ", true)", x.answers(store, true), NONE);
        }
        due("answers(2, false)", x.answers(2, false), 1);
    }

    // Promise 6: alter

    private static void byteBefore() {
        says("Promise 6", "A byte of a copy is another one: the one before, 0 .. 255");
        House x = House.of(1, 1);
        x.file(0, upTo(16));
        due("alter(0, 0, 0, 255)", x.alter(0, 0, 0, 255), 1);
        due("alter(0, 0, 0, 128)", x.alter(0, 0, 0, 128), 255);
        due("alter(0, 0, 0, 0)", x.alter(0, 0, 0, 0), 128);
        due("alter(0, 0, 0, -1)", x.alter(0, 0, 0, -1), 0);
        due("alter(0, 0, 0, 256)", x.alter(0, 0, 0, 256), 255);
        due("alter(0, 0, 0, 7)", x.alter(0, 0, 0, 7), 0);
        due("alter(0, 0, 15, 200)", x.alter(0, 0, 15, 200), 16);
        due("the same byte", x.alter(0, 0, 15, 200), 200);
        due("bytes", x.bytes(0, 0), "7 2 3 4 5 6 7 8 9 10 11 12 13 14 15 200");
    }

    private static void alterNoByte() {
        says("Promise 6", "NONE if there is no such byte");
        for (int size : new int[] {1, 2, 15, 16}) {
            House x = House.of(1, 1);
            x.file(0, upTo(size));
            due("the last", x.alter(0, 0, size - 1, 200), size);
            for (int i : new int[] {LEAST, -1, size, 16, 17, MOST}) {
                due("byte " + i + " of " + size, x.alter(0, 0, i, 9), NONE);
            }
        }
        House cut = House.of(1, 1);
        cut.file(0, 1, 2, 3);
        cut.cut(0, 0, 2);
        due("one that was cut", cut.alter(0, 0, 2, 9), NONE);
        due("the last that was not", cut.alter(0, 0, 1, 9), 2);
        cut.cut(0, 0, 0);
        due("no byte at all", cut.alter(0, 0, 0, 9), NONE);
    }

    private static void alterNoCopy() {
        says("Promise 6", "NONE if there is no such copy");
        House x = House.of(1, 2);
        due("no file yet", x.alter(0, 0, 0, 9), NONE);
        x.file(0, 1);
        due("a store without one", x.alter(1, 0, 0, 9), NONE);
        due("no such store", x.alter(2, 0, 0, 9), NONE);
        due("no such file", x.alter(0, 1, 0, 9), NONE);
        x.lose(0, 0);
        due("one that was lost", x.alter(0, 0, 0, 9), NONE);
    }

    // Promise 7: cut

    private static void cutToEachSize() {
        says("Promise 7", "A copy loses its last bytes, all but so many: how many it lost");
        for (int size = 0; size <= 16; size++) {
            House x = House.of(1, 1);
            x.file(0, upTo(16));
            due("cut(0, 0, " + size + ")", x.cut(0, 0, size), 16 - size);
            due("bytes", x.bytes(0, 0), text(upTo(size)));
            due("the same once more", x.cut(0, 0, size), 0);
        }
    }

    private static void cutToNothing() {
        says("Promise 7", "(0: all bytes, the copy is there still)");
        House x = House.of(1, 2);
        x.file(0, 1);
        due("cut(0, 0, 0)", x.cut(0, 0, 0), 1);
        due("cut(0, 0, 0), nothing is left", x.cut(0, 0, 0), 0);
        due("cut(0, 0, 1)", x.cut(0, 0, 1), RANGE);
        due("load(0)", x.load(0), 1);
        due("about(0, 1)", x.about(0, 1), 1);
        due("about(0, 2)", x.about(0, 2), 1);
        due("stale(0, 0)", x.stale(0, 0), 0);
        due("poll(0, 0)", x.poll(0, 0L), 1);
        due("move(0, 0, 1)", x.move(0, 0, 1), 1);
        due("lose(1, 0)", x.lose(1, 0), 1);
    }

    private static void cutOutOfRange() {
        says("Promise 7", "RANGE");
        for (int size : new int[] {1, 2, 15, 16}) {
            House x = House.of(1, 1);
            x.file(0, upTo(size));
            for (int to : new int[] {LEAST, -1, size + 1, 17, MOST}) {
                due("cut of " + size + " to " + to, x.cut(0, 0, to), RANGE);
            }
            due("bytes", x.bytes(0, 0), text(upTo(size)));
            due("cut to one less", x.cut(0, 0, size - 1), 1);
            due("cut to what it was", x.cut(0, 0, size), RANGE);
        }
    }

    private static void cutNoCopy() {
        says("Promise 7", "NONE");
        House x = House.of(1, 2);
        due("no file yet", x.cut(0, 0, 0), NONE);
        x.file(0, 1);
        due("a store without one", x.cut(1, 0, 0), NONE);
        due("a store without one, a size that can't be", x.cut(1, 0, -1), NONE);
        due("no such store", x.cut(2, 0, 0), NONE);
        due("no such file", x.cut(0, 1, 0), NONE);
        x.lose(0, 0);
        due("one that was lost", x.cut(0, 0, 0), NONE);
    }

    // Promise 8: lose

    private static void loseOnce() {
        says("Promise 8", "A copy is lost: 1; NONE");
        House x = House.of(2, 3);
        due("no file yet", x.lose(0, 0), NONE);
        x.file(0, 1);
        due("a store without one", x.lose(2, 0), NONE);
        due("no such store", x.lose(3, 0), NONE);
        due("no such file", x.lose(0, 1), NONE);
        due("lose(0, 0)", x.lose(0, 0), 1);
        due("lose(0, 0) again", x.lose(0, 0), NONE);
        due("about(0, 1)", x.about(0, 1), 1);
        x.answers(1, false);
        due("where it does not COUNT", x.lose(1, 0), 1);
        due("about(0, 1), none is left", x.about(0, 1), 0);
        due("about(0, 0), the file is there", x.about(0, 0), 0);
        due("loads", x.loads(3), "0 0 0");
    }

    // Promise 9: poll

    private static void pollCounts() {
        says("Promise 9", "A POLL: how many copies were asked");
        House x = House.of(5, 5);
        due("no files", x.poll(0, 1L), 0);
        x.file(0, 1);
        x.file(0, 1);
        x.file(1, 1);
        due("two files", x.poll(0, 1L), 6);
        due("one file", x.poll(1, 1L), 3);
        due("a package without files", x.poll(2, 1L), 0);
        x.answering("--+++");
        due("three each", x.poll(0, 1L), 6);
        x.answering("---++");
        due("two each", x.poll(0, 1L), 4);
        x.lose(4, 1);
        due("two and one", x.poll(0, 1L), 3);
        x.lose(3, 1);
        due("two and none", x.poll(0, 1L), 2);
        x.answering("-----");
        due("none", x.poll(0, 1L), 0);
    }

    private static void pollOutOfRange() {
        says("Promise 9", "RANGE");
        House x = House.of(1, 1);
        x.file(9, 1);
        x.file(0, 1);
        for (int pack : new int[] {LEAST, -1, 10, MOST}) {
            due("poll(" + pack + ", 0)", x.poll(pack, 0L), RANGE);
        }
        due("poll(9, 0)", x.poll(9, 0L), 1);
        due("poll(0, 0)", x.poll(0, 0L), 1);
    }

    // Promise 10: polled

    private static void polledFromNullOn() {
        says("Promise 10", "Of the i-th copy that was asked in the latest poll, from 0 on");
        House x = House.of(5, 5);
        x.file(0, 1);
        x.file(0, 2);
        x.poll(0, 0L);
        due("asked", x.asked(), "0:4 0:3 0:1 1:4 1:1 1:2");
        due("polled(0, 2)", x.polled(0, 2), digestOfOne(1));
        due("polled(2, 2)", x.polled(2, 2), digestOfOne(1));
        due("polled(3, 2)", x.polled(3, 2), digestOfOne(2));
        due("polled(5, 2)", x.polled(5, 2), digestOfOne(2));
        x.poll(1, 0L);
        due("asked in a poll of none", x.asked(), "");
    }

    private static void digestThen() {
        says("Promise 10", "2: its DIGEST then");
        House x = voting("555");
        x.poll(0, 0L);
        int[] stores = {1, 0, 2};
        x.alter(1, 0, 0, 9);
        x.cut(0, 0, 0);
        x.lose(2, 0);
        x.answers(1, false);
        x.poll(10, 0L);
        for (int i = 0; i < 3; i++) {
            due("polled(" + i + ", 0)", x.polled(i, 0), 0);
            due("polled(" + i + ", 1)", x.polled(i, 1), stores[i]);
            due("polled(" + i + ", 2)", x.polled(i, 2), digestOfOne(5));
        }
        due("a poll now", x.poll(0, 0L), 1);
        due("polled(0, 2) now", x.polled(0, 2), 7);
    }

    private static void anotherWhat() {
        says("Promise 10", "NONE for another what");
        House x = voting("555");
        x.poll(0, 0L);
        for (int what : new int[] {LEAST, -1, 3, 4, MOST}) {
            due("polled(0, " + what + ")", x.polled(0, what), NONE);
            due("polled(2, " + what + ")", x.polled(2, what), NONE);
        }
    }

    private static void noCopyAsked() {
        says("Promise 10", "IndexOutOfBoundsException if there is none such");
        House x = voting("555");
        for (int what = 0; what < 3; what++) {
            int it = what;
            noIndex("polled(0, " + what + ") before a poll", () -> x.polled(0, it));
            noIndex("polled(-1, " + what + ") before a poll", () -> x.polled(-1, it));
        }
        x.poll(0, 0L);
        for (int i : new int[] {LEAST, -1, 3, 119, 120, MOST}) {
            for (int what = 0; what < 3; what++) {
                int it = what;
                noIndex("polled(" + i + ", " + what + ")", () -> x.polled(i, it));
            }
        }
        x.answers(1, false);
        x.poll(0, 0L);
        due("polled(1, 0) of two", x.polled(1, 0), 0);
        noIndex("polled(2, 0) of two, three before", () -> x.polled(2, 0));
        x.poll(9, 0L);
        noIndex("polled(0, 0) of none", () -> x.polled(0, 0));
    }

    // Promises 11 and 12: majority, digest

    private static void majorityOrDanger() {
        says("Promise 11", "1 if it has one, 0 if it is in DANGER");
        String[] digits = {"1", "11", "12", "112", "123", "1112", "1122", "11122", "11223"};
        int[] most = {1, 1, 0, 1, 0, 1, 0, 1, 0};
        for (int k = 0; k < digits.length; k++) {
            due("majority of " + digits[k], voting(digits[k]).majority(0), most[k]);
        }
        House off = voting("1");
        off.answers(0, false);
        due("none COUNTS", off.majority(0), 0);
        House lost = voting("1");
        lost.lose(0, 0);
        due("none is there", lost.majority(0), 0);
    }

    private static void majorityOfNone() {
        says("Promise 11", "NONE");
        House none = House.of(1, 1);
        due("majority(0), no file", none.majority(0), NONE);
        House x = voting("1");
        for (int file : new int[] {LEAST, -1, 1, 39, 40, MOST}) {
            due("majority(" + file + ")", x.majority(file), NONE);
        }
    }

    private static void digestLatest() {
        says("Promise 12", "The DIGEST that majority() found latest");
        House x = House.of(3, 3);
        x.file(0, 1);
        x.file(0, 2);
        x.file(0, 3);
        x.majority(0);
        due("of file 0", x.digest(), digestOfOne(1));
        due("told once more", x.digest(), digestOfOne(1));
        x.majority(1);
        due("of file 1", x.digest(), digestOfOne(2));
        for (int store = 0; store < 3; store++) {
            x.rate(store, 1, 2);
        }
        x.alter(0, 2, 0, 9);
        x.stale(0, 2);
        x.odds(2, 0);
        x.poll(0, 0L);
        x.mend(0);
        x.lose(0, 2);
        x.fill(0);
        x.about(2, 2);
        due("other calls find none", x.digest(), digestOfOne(2));
        x.alter(0, 1, 0, 7);
        x.alter(1, 1, 0, 7);
        due("as it was then", x.digest(), digestOfOne(2));
        x.majority(1);
        due("found anew", x.digest(), digestOfOne(7));
    }

    private static void digestOfNone() {
        says("Promise 12", "0 if it found none");
        House x = voting("12");
        due("before majority()", x.digest(), 0);
        x.file(0, 3);
        x.majority(1);
        due("found", x.digest(), digestOfOne(3));
        x.majority(0);
        due("in DANGER", x.digest(), 0);
        x.majority(1);
        x.answering("--");
        x.majority(1);
        due("none COUNTS", x.digest(), 0);
        x.answering("++");
        x.majority(1);
        x.lose(0, 1);
        x.lose(1, 1);
        x.majority(1);
        due("none is there", x.digest(), 0);
    }

    // Promise 13: mend

    private static void mendCounts() {
        says("Promise 13", "All files of a package are MENDED: how many copies became others");
        House x = House.of(5, 5);
        due("no files", x.mend(0), 0);
        for (int file = 0; file < 3; file++) {
            x.file(file % 2, 1, 2);
        }
        due("all are alike", x.mend(0), 0);
        x.alter(0, 0, 0, 9);
        x.alter(4, 0, 0, 9);
        x.cut(2, 2, 0);
        x.alter(1, 1, 0, 9);
        due("package 0", x.mend(0), 3);
        due("about(0, 3)", x.about(0, 3), 2);
        due("about(1, 3)", x.about(1, 3), 0);
        due("about(2, 3)", x.about(2, 3), 1);
        due("package 0 again", x.mend(0), 0);
        due("package 1", x.mend(1), 1);
        due("a package without files", x.mend(9), 0);
    }

    private static void mendOutOfRange() {
        says("Promise 13", "RANGE");
        House x = House.of(3, 3);
        x.file(0, 1);
        x.file(9, 1);
        x.alter(0, 0, 0, 9);
        x.alter(0, 1, 0, 9);
        for (int pack : new int[] {LEAST, -1, 10, MOST}) {
            due("mend(" + pack + ")", x.mend(pack), RANGE);
        }
        due("mend(0)", x.mend(0), 1);
        due("mend(9)", x.mend(9), 1);
    }

    // Promise 14: stale

    private static void staleOrNot() {
        says("Promise 14", "1 if the file has a MAJORITY and the copy has another DIGEST, else 0");
        String[] digits = {"1", "11", "12", "112", "123", "1122", "11122", "11123", "11223"};
        String[] stale = {"0", "00", "00", "001", "000", "0000", "00011", "00011", "00000"};
        for (int k = 0; k < digits.length; k++) {
            House x = voting(digits[k]);
            for (int store = 0; store < digits[k].length(); store++) {
                due("store " + store + " of " + digits[k], x.stale(store, 0), stale[k].charAt(store));
            }
        }
    }

    private static void staleWhereItDoesNotCount() {
        says("Promise 14", "Whether a store's copy is STALE (of a store that does not ANSWER too)");
        House x = voting("112");
        x.answers(2, false);
        due("stale(2, 0)", x.stale(2, 0), 1);
        x.answering("--+");
        due("stale(0, 0)", x.stale(0, 0), 1);
        due("stale(2, 0)", x.stale(2, 0), 0);
        x.answering("---");
        for (int store = 0; store < 3; store++) {
            due("none COUNTS, stale(" + store + ", 0)", x.stale(store, 0), 0);
        }
    }

    private static void staleByDigestAlone() {
        says("Promise 14", "the copy has another DIGEST (other bytes may have the same)");
        House x = House.of(3, 3);
        x.file(0, 1, 0);
        x.alter(2, 0, 0, 0);
        x.alter(2, 0, 1, 31);
        due("0 31 and 1 0", x.stale(2, 0), 0);
        x.alter(2, 0, 1, 30);
        due("0 30 and 1 0", x.stale(2, 0), 1);
        House y = House.of(3, 3);
        y.file(0, 1, 0);
        y.cut(0, 0, 1);
        due("a 0 less", y.stale(0, 0), 1);
    }

    private static void staleOfNone() {
        says("Promise 14", "NONE if there is no such copy");
        House x = House.of(1, 2);
        due("no file yet", x.stale(0, 0), NONE);
        x.file(0, 1);
        due("a store without one", x.stale(1, 0), NONE);
        due("no such store", x.stale(2, 0), NONE);
        due("no such file", x.stale(0, 1), NONE);
        x.lose(0, 0);
        due("one that was lost", x.stale(0, 0), NONE);
    }

    // Promise 15: fill

    private static void fewerThanCopies() {
        says("Promise 15", "each file that has fewer than COPIES copies");
        for (int copies = 2; copies <= 5; copies++) {
            House x = House.of(copies, copies + 1);
            x.file(0, 1, 2);
            due("it has all", x.fill(copies), 0);
            x.lose(0, 0);
            due("one is lost", x.fill(copies), 1);
            due("its bytes", x.bytes(copies, 0), "1 2");
            due("it has all again", x.fill(0), 0);
            due("about(0, 1)", x.about(0, 1), copies);
            for (int store = 2; store <= copies; store++) {
                x.lose(store, 0);
            }
            due("one copy is left", x.about(0, 1), 1);
            due("filled from that one", x.fill(0), 1);
        }
    }

    private static void whetherTheyCountOrNot() {
        says("Promise 15", "fewer than COPIES copies (whether they COUNT or not)");
        House x = House.of(3, 4);
        x.file(0, 1);
        x.answers(0, false);
        x.answers(1, false);
        due("three, of which one COUNTS", x.fill(3), 0);
        x.lose(0, 0);
        due("two, of which one COUNTS", x.fill(3), 1);
        due("about(0, 1)", x.about(0, 1), 3);
        due("about(0, 2)", x.about(0, 2), 2);
    }

    private static void notInDanger() {
        says("Promise 15", "each file that is not in DANGER");
        House x = House.of(3, 4);
        x.file(0, 1);
        x.lose(2, 0);
        x.alter(1, 0, 0, 2);
        due("half have it", x.fill(3), 0);
        x.answers(0, false);
        due("one of one has it", x.fill(3), 1);
        due("its byte", x.at(3, 0, 0), 2);
        House off = House.of(2, 3);
        off.file(0, 1);
        off.lose(0, 0);
        off.answers(1, false);
        due("none COUNTS", off.fill(2), 0);
        off.lose(1, 0);
        due("none is there", off.fill(2), 0);
        House one = House.of(1, 2);
        one.file(0, 1);
        one.lose(0, 0);
        due("none is there, of one", one.fill(0), 0);
    }

    private static void hasNoneHere() {
        says("Promise 15", "each file that has none here");
        House x = voting("111");
        x.lose(2, 0);
        due("it has one here", x.fill(0), 0);
        due("it has one here", x.fill(1), 0);
        due("it has none here", x.fill(2), 1);
        x.cut(2, 0, 0);
        x.lose(1, 0);
        x.answers(0, false);
        due("one without bytes is here", x.fill(2), 0);
        due("bytes", x.bytes(2, 0), "");
    }

    /** Both packages, some files with all their copies among those that lack one. */
    private static void fillsByNumbers() {
        says("Promise 15", "each file, by numbers, gets one: how many");
        House x = House.of(2, 3);
        due("no files", x.fill(0), 0);
        x.answers(2, false);
        for (int file = 0; file < 40; file++) {
            x.file(file % 10, file);
        }
        x.answers(2, true);
        for (int file = 0; file < 40; file += 3) {
            x.lose(0, file);
        }
        due("fill(2)", x.fill(2), 14);
        due("loads", x.loads(3), "26 40 14");
        due("fill(2) again", x.fill(2), 0);
        due("byte of file 0", x.at(2, 0, 0), 0);
        due("byte of file 1", x.at(2, 1, 0), NONE);
        due("byte of file 39", x.at(2, 39, 0), 39);
    }

    private static void fillsAllForty() {
        says("Promise 15", "each file gets one (all forty)");
        House x = House.of(2, 2);
        for (int file = 0; file < 40; file++) {
            x.file(file % 10, file);
        }
        for (int file = 0; file < 40; file++) {
            x.lose(1, file);
        }
        due("load(1)", x.load(1), 0);
        due("fill(1)", x.fill(1), 40);
        due("load(1)", x.load(1), 40);
        for (int file = 0; file < 40; file++) {
            due("about(" + file + ", 3)", x.about(file, 3), 1);
            due("at(1, " + file + ", 0)", x.at(1, file, 0), file);
        }
    }

    private static void fillsAsWhenMended() {
        says("Promise 15", "gets one, as when it is MENDED");
        House x = House.of(5, 5);
        x.file(0, 1, 0);
        x.alter(0, 0, 0, 200);
        x.alter(1, 0, 0, 0);
        x.alter(1, 0, 1, 31);
        x.lose(4, 0);
        due("fill(4)", x.fill(4), 1);
        due("THE MAJORITY's bytes on the least store", x.bytes(4, 0), "0 31");
        due("the stale one stays", x.bytes(0, 0), "200 0");
        due("about(0, 3)", x.about(0, 3), 1);
        House empty = House.of(3, 3);
        empty.file(0, 1, 2);
        empty.cut(0, 0, 0);
        empty.cut(1, 0, 0);
        empty.lose(2, 0);
        due("fill(2) by copies without bytes", empty.fill(2), 1);
        due("load(2)", empty.load(2), 1);
        due("bytes", empty.bytes(2, 0), "");
    }

    private static void fillOfNone() {
        says("Promise 15", "NONE; STATE if it does not ANSWER");
        House x = House.of(2, 3);
        x.file(0, 1);
        x.lose(0, 0);
        for (int store : new int[] {LEAST, -1, 3, 9, 10, MOST}) {
            due("fill(" + store + ")", x.fill(store), NONE);
        }
        x.answers(2, false);
        due("fill(2), it does not ANSWER", x.fill(2), STATE);
        due("load(2)", x.load(2), 0);
        x.answers(2, true);
        due("fill(2)", x.fill(2), 1);
        x.answers(2, false);
        due("nothing lacks", x.fill(2), STATE);
    }

    // Promise 16: move

    private static void movesAsItIs() {
        says("Promise 16", "A copy goes from a store to another one, as it is: 1");
        House x = House.of(1, 10);
        x.file(0, upTo(16));
        due("move(0, 0, 9)", x.move(0, 0, 9), 1);
        due("bytes", x.bytes(9, 0), text(upTo(16)));
        due("where it was", x.bytes(0, 0), "none");
        x.cut(9, 0, 0);
        due("move(0, 9, 0)", x.move(0, 9, 0), 1);
        due("without bytes", x.bytes(0, 0), "");
        due("where it was", x.bytes(9, 0), "none");
        due("about(0, 3)", x.about(0, 3), 0);
        due("loads", x.loads(10), "1 0 0 0 0 0 0 0 0 0");
    }

    private static void moveOfNone() {
        says("Promise 16", "NONE if there is no such copy or store");
        House x = House.of(1, 3);
        due("no file yet", x.move(0, 0, 1), NONE);
        x.file(0, 1);
        due("a store without one", x.move(0, 1, 2), NONE);
        due("no such file", x.move(1, 0, 1), NONE);
        for (int store : new int[] {LEAST, -1, 3, 9, 10, MOST}) {
            due("from " + store, x.move(0, store, 1), NONE);
            due("to " + store, x.move(0, 0, store), NONE);
            due("from and to " + store, x.move(0, store, store), NONE);
        }
        due("none goes to itself", x.move(0, 1, 1), NONE);
        x.answers(0, false);
        due("to no store, from one that does not ANSWER", x.move(0, 0, 3), NONE);
        x.answers(1, false);
        due("none goes between two that do not ANSWER", x.move(0, 1, 0), NONE);
    }

    private static void moveToItself() {
        says("Promise 16", "STATE if they are the same");
        House x = voting("1");
        due("move(0, 0, 0)", x.move(0, 0, 0), STATE);
        due("about(0, 1)", x.about(0, 1), 1);
        x.answers(0, false);
        due("and does not ANSWER", x.move(0, 0, 0), STATE);
    }

    private static void moveWithoutAnAnswer() {
        says("Promise 16", "STATE if one does not ANSWER");
        House x = House.of(1, 2);
        x.file(0, 1);
        x.answering("-+");
        due("from does not", x.move(0, 0, 1), STATE);
        x.answering("+-");
        due("to does not", x.move(0, 0, 1), STATE);
        x.answering("--");
        due("both do not", x.move(0, 0, 1), STATE);
        x.answering("++");
        due("both do", x.move(0, 0, 1), 1);
    }

    private static void moveToOneThatHasOne() {
        says("Promise 16", "STATE if the other one has one");
        House x = House.of(2, 3);
        x.file(0, 1);
        x.alter(0, 0, 0, 9);
        due("move(0, 0, 1)", x.move(0, 0, 1), STATE);
        due("bytes", x.bytes(1, 0), "1");
        x.cut(1, 0, 0);
        due("one without bytes is one", x.move(0, 0, 1), STATE);
        x.lose(1, 0);
        due("it has lost it", x.move(0, 0, 1), 1);
        x.file(0, 2);
        due("a copy of another file is none of this", x.move(1, 0, 1), 1);
    }

    // Promise 17: rate

    private static void ratesTaken() {
        says("Promise 17", "0 <= up <= down, 1 <= down <= 1000: 1");
        int[][] taken = {{0, 1}, {1, 1}, {0, 1000}, {1, 1000}, {999, 1000}, {1000, 1000}, {1, 2}, {2, 2}};
        String[] odds = {"0/1", "1/1", "0/1", "1/1000", "999/1000", "1/1", "1/2", "1/1"};
        House x = voting("1");
        for (int k = 0; k < taken.length; k++) {
            due("rate(0, " + text(taken[k]) + ")", x.rate(0, taken[k][0], taken[k][1]), 1);
            due("odds(0)", x.odds(0), odds[k]);
        }
    }

    private static void ratesRefused() {
        says("Promise 17", "RANGE");
        int[][] refused = {{-1, 1}, {2, 1}, {0, 0}, {1, 0}, {0, -1}, {-1, -1}, {-1, 0}, {0, 1001},
            {1, 1001}, {1001, 1001}, {1001, 1000}, {-1, 1000}, {LEAST, 1}, {MOST, 1}, {0, LEAST},
            {0, MOST}, {LEAST, LEAST}, {MOST, MOST}};
        House x = voting("1");
        for (int[] rate : refused) {
            due("rate(0, " + text(rate) + ")", x.rate(0, rate[0], rate[1]), RANGE);
        }
        due("it has none", outcome(() -> x.odds(0, 0)), NO_RATE);
        x.rate(0, 3, 7);
        for (int[] rate : refused) {
            due("rate(0, " + text(rate) + ")", x.rate(0, rate[0], rate[1]), RANGE);
        }
        due("it has the one before", x.odds(0), "3/7");
    }

    private static void rateOfNone() {
        says("Promise 17", "NONE, RANGE");
        House none = new House(1);
        due("rate(0, 1, 2)", none.rate(0, 1, 2), NONE);
        House x = House.of(1, 3);
        for (int store : new int[] {LEAST, -1, 3, 9, 10, MOST}) {
            due("rate(" + store + ", 1, 2)", x.rate(store, 1, 2), NONE);
            due("rate(" + store + ", 2, 1)", x.rate(store, 2, 1), NONE);
        }
        due("rate(2, 1, 2)", x.rate(2, 1, 2), 1);
    }

    private static void rateWithoutAnAnswer() {
        says("Promise 17", "A store's RATE (of one that does not ANSWER too)");
        House x = voting("1");
        x.answers(0, false);
        due("rate(0, 1, 2)", x.rate(0, 1, 2), 1);
        x.answers(0, true);
        due("odds(0)", x.odds(0), "1/2");
    }

    // Promise 18: odds

    private static House rated(String digits, int... rates) {
        House x = voting(digits);
        for (int store = 0; store < rates.length / 2; store++) {
            x.rate(store, rates[2 * store], rates[2 * store + 1]);
        }
        return x;
    }

    private static void oddsOfTheMajority() {
        says("Promise 18", "the RATES of the stores whose copies COUNT and have THE MAJORITY, one times the other");
        due("one", rated("1", 2, 3).odds(0), "2/3");
        due("two", rated("11", 2, 3, 1, 5).odds(0), "2/15");
        due("two of three", rated("112", 2, 3, 1, 5, 1, 7).odds(0), "2/15");
        House x = rated("11122", 1, 2, 1, 3, 1, 5, 1, 7, 1, 11);
        due("three of five", x.odds(0), "1/30");
        x.answers(0, false);
        due("DANGER, two and two", x.odds(0), "1/1155");
        x.answers(1, false);
        due("two of three", x.odds(0), "1/77");
        x.answers(1, true);
        x.answers(4, false);
        due("the other two of three", x.odds(0), "1/15");
    }

    private static void oddsInDanger() {
        says("Promise 18", "(in DANGER: of all whose copies COUNT)");
        due("two", rated("12", 2, 3, 1, 5).odds(0), "2/15");
        due("three", rated("123", 1, 2, 1, 3, 1, 5).odds(0), "1/30");
        House x = rated("1122", 1, 2, 1, 3, 1, 5, 1, 7);
        due("two and two", x.odds(0), "1/210");
        x.lose(0, 0);
        x.answers(3, false);
        due("one and one", x.odds(0), "1/15");
    }

    private static void oddsInLeastTerms() {
        says("Promise 18", "in least terms");
        due("2/4", rated("1", 2, 4).odds(0), "1/2");
        due("1000/1000", rated("1", 1000, 1000).odds(0), "1/1");
        due("2/3 times 3/4", rated("11", 2, 3, 3, 4).odds(0), "1/2");
        due("3/5 times 5/9", rated("11", 3, 5, 5, 9).odds(0), "1/3");
        due("999/1000, five times",
            rated("11111", 999, 1000, 999, 1000, 999, 1000, 999, 1000, 999, 1000).odds(0),
            "995009990004999/1000000000000000");
        due("1/1000, five times",
            rated("11111", 1, 1000, 1, 1000, 1, 1000, 1, 1000, 1, 1000).odds(0),
            "1/1000000000000000");
        due("998/1000, five times",
            rated("11111", 998, 1000, 998, 1000, 998, 1000, 998, 1000, 998, 1000).odds(0),
            "30938747502499/31250000000000");
        due("1000/1000, five times",
            rated("11111", 1000, 1000, 1000, 1000, 1000, 1000, 1000, 1000, 1000, 1000).odds(0), "1/1");
    }

    private static void oddsOfNothing() {
        says("Promise 18", "(0 is 0 / 1)");
        due("0/1", rated("1", 0, 1).odds(0), "0/1");
        due("0/1000", rated("1", 0, 1000).odds(0), "0/1");
        due("1/2 times 0/7", rated("11", 1, 2, 0, 7).odds(0), "0/1");
        due("0/7 times 1/2", rated("11", 0, 7, 1, 2).odds(0), "0/1");
        due("0/7 times 0/5", rated("11", 0, 7, 0, 5).odds(0), "0/1");
    }

    private static void oddsWithoutACopy() {
        says("Promise 18", "(without such a copy 1 / 1)");
        House off = rated("11", 1, 2, 1, 3);
        off.answering("--");
        due("none COUNTS", off.odds(0), "1/1");
        House lost = rated("1", 1, 2);
        lost.lose(0, 0);
        due("none is there", lost.odds(0), "1/1");
        House bare = voting("1");
        bare.answers(0, false);
        due("none COUNTS, no RATE", bare.odds(0), "1/1");
    }

    private static void oddsSides() {
        says("Promise 18", "side 0 what is above, else what is below the line");
        House x = rated("1", 3, 7);
        due("side 0", x.odds(0, 0), 3);
        for (int side : new int[] {LEAST, -1, 1, 2, MOST}) {
            due("side " + side, x.odds(0, side), 7);
        }
    }

    private static void oddsOfNone() {
        says("Promise 18", "NONE");
        House none = House.of(1, 1);
        due("odds(0, 0), no file", none.odds(0, 0), NONE);
        House x = voting("1");
        for (int file : new int[] {LEAST, -1, 1, 39, 40, MOST}) {
            due("odds(" + file + ", 0)", x.odds(file, 0), NONE);
            due("odds(" + file + ", 1)", x.odds(file, 1), NONE);
        }
    }

    private static void oddsWithoutARate() {
        says("Promise 18", "ArithmeticException if one of them has no RATE");
        for (int side = 0; side < 2; side++) {
            int it = side;
            noRate("none has", () -> voting("1").odds(0, it));
            noRate("the last has none", () -> rated("111", 1, 2, 1, 2).odds(0, it));
            noRate("the last has none, another is 0", () -> rated("11", 0, 2).odds(0, it));
            noRate("in DANGER", () -> rated("12", 1, 2).odds(0, it));
        }
        House first = voting("11");
        first.rate(1, 0, 2);
        noRate("the first has none, another is 0", () -> first.odds(0, 0));
        first.rate(0, 1, 2);
        due("now it has", first.odds(0), "0/1");
    }

    private static void oddsOfThoseAlone() {
        says("Promise 18", "if one of them has no RATE (others need none)");
        due("the stale one has none", rated("112", 1, 2, 1, 3).odds(0), "1/6");
        House off = rated("111", 1, 2, 1, 3);
        off.answers(2, false);
        due("one that does not ANSWER has none", off.odds(0), "1/6");
        House bare = House.of(1, 2);
        bare.file(0, 1);
        bare.rate(0, 1, 2);
        due("a store without a copy has none", bare.odds(0), "1/2");
    }

    // Promise 19: at

    private static void atEachByte() {
        says("Promise 19", "Byte i of a copy, 0 .. 255");
        House x = House.of(1, 1);
        x.file(0, 0, 1, 127, 128, 254, 255, 6, 7, 8, 9, 10, 11, 12, 13, 14, 250);
        int[] bytes = {0, 1, 127, 128, 254, 255, 6, 7, 8, 9, 10, 11, 12, 13, 14, 250};
        for (int i = 0; i < 16; i++) {
            due("at(0, 0, " + i + ")", x.at(0, 0, i), bytes[i]);
        }
        x.answers(0, false);
        due("where it does not COUNT", x.at(0, 0, 15), 250);
    }

    private static void atNoByte() {
        says("Promise 19", "ArrayIndexOutOfBoundsException if there is no such byte");
        for (int size : new int[] {1, 2, 15, 16}) {
            House x = House.of(1, 1);
            x.file(0, upTo(size));
            due("the last of " + size, x.at(0, 0, size - 1), size);
            for (int i : new int[] {LEAST, -1, size, 16, 17, MOST}) {
                noByte("byte " + i + " of " + size, () -> x.at(0, 0, i));
            }
        }
        House cut = House.of(1, 1);
        cut.file(0, 1, 2, 3);
        cut.cut(0, 0, 2);
        due("the last that was not cut", cut.at(0, 0, 1), 2);
        noByte("one that was cut", () -> cut.at(0, 0, 2));
        cut.cut(0, 0, 0);
        noByte("no byte at all", () -> cut.at(0, 0, 0));
    }

    private static void atNoCopy() {
        says("Promise 19", "NONE if there is no such copy");
        House x = House.of(1, 2);
        due("no file yet", x.at(0, 0, 0), NONE);
        x.file(0, 1);
        for (int i : new int[] {LEAST, -1, 0, 1, 16, MOST}) {
            due("a store without one, byte " + i, outcome(() -> x.at(1, 0, i)), NONE);
            due("no such store, byte " + i, outcome(() -> x.at(2, 0, i)), NONE);
            due("no such file, byte " + i, outcome(() -> x.at(0, 1, i)), NONE);
        }
        x.lose(0, 0);
        due("one that was lost", x.at(0, 0, 0), NONE);
    }

    // Promise 20: about

    private static void aboutCopies() {
        says("Promise 20", "1: how many copies it has, 2: how many of them COUNT");
        House x = voting("11111");
        for (int left = 5; left > 0; left--) {
            due("copies", x.about(0, 1), left);
            due("of which COUNT", x.about(0, 2), left);
            x.answers(left - 1, false);
            due("copies, one off", x.about(0, 1), left);
            due("of which COUNT, one off", x.about(0, 2), left - 1);
            x.answers(left - 1, true);
            x.lose(left - 1, 0);
        }
        due("copies", x.about(0, 1), 0);
        due("of which COUNT", x.about(0, 2), 0);
    }

    private static void aboutMendedOrFilled() {
        says("Promise 20", "3: how often copies of it were MENDED or filled");
        House x = House.of(5, 6);
        x.file(0, 1);
        due("never", x.about(0, 3), 0);
        x.mend(0);
        x.fill(5);
        due("none was", x.about(0, 3), 0);
        x.alter(0, 0, 0, 2);
        x.alter(1, 0, 0, 3);
        x.mend(0);
        due("two MENDED", x.about(0, 3), 2);
        x.lose(4, 0);
        x.fill(5);
        due("one filled", x.about(0, 3), 3);
        x.move(0, 5, 4);
        due("one moved", x.about(0, 3), 3);
        x.lose(4, 0);
        due("it is lost again", x.about(0, 3), 3);
        x.alter(0, 0, 0, 2);
        x.alter(1, 0, 0, 2);
        x.mend(0);
        x.fill(4);
        due("in DANGER", x.about(0, 3), 3);
    }

    private static void aboutOfNone() {
        says("Promise 20", "NONE");
        House none = House.of(1, 1);
        due("about(0, 0), no file", none.about(0, 0), NONE);
        House x = House.of(1, 1);
        x.file(9, 1);
        due("about(0, 0)", x.about(0, 0), 9);
        for (int what : new int[] {LEAST, -1, 4, 5, MOST}) {
            due("about(0, " + what + ")", x.about(0, what), NONE);
        }
        for (int file : new int[] {LEAST, -1, 1, 39, 40, MOST}) {
            for (int what : new int[] {-1, 0, 1, 2, 3, 4}) {
                due("about(" + file + ", " + what + ")", x.about(file, what), NONE);
            }
        }
    }

    // Promise 21: load

    private static void loadCounts() {
        says("Promise 21", "How many copies a store has");
        House x = House.of(1, 2);
        x.answers(1, false);
        for (int file = 0; file < 40; file++) {
            due("load(0)", x.load(0), file);
            x.file(file % 10, 1);
        }
        due("load(0), all forty", x.load(0), 40);
        due("load(1)", x.load(1), 0);
        x.answers(0, false);
        due("load(0), it does not ANSWER", x.load(0), 40);
        x.cut(0, 0, 0);
        due("load(0), one without bytes", x.load(0), 40);
        x.lose(0, 39);
        due("load(0), one is lost", x.load(0), 39);
        x.answering("++");
        x.move(0, 0, 1);
        due("loads, one went", x.loads(2), "38 1");
    }

    private static void loadOfNone() {
        says("Promise 21", "NONE");
        House none = new House(1);
        due("load(0), no store", none.load(0), NONE);
        House x = House.of(1, 3);
        for (int store : new int[] {LEAST, -1, 3, 9, 10, MOST}) {
            due("load(" + store + ")", x.load(store), NONE);
        }
        due("load(2)", x.load(2), 0);
    }

    private static void promises1To9() {
        nearestCopies();
        nothingAtFirst();
        storeNumbers();
        storeOutOfRange();
        storeAtATakenPlace();
        storesFull();
        sixteenthByte();
        leastAndMostByte();
        eachStoreGetsOne();
        nothingCollectedAnyMore();
        putOutOfRange();
        tooFewStores();
        filesFull();
        fullWithoutBytes();
        answersTwice();
        answersOfNone();
        byteBefore();
        alterNoByte();
        alterNoCopy();
        cutToEachSize();
        cutToNothing();
        cutOutOfRange();
        cutNoCopy();
        loseOnce();
        pollCounts();
        pollOutOfRange();
    }

    private static void promises10To16() {
        polledFromNullOn();
        digestThen();
        anotherWhat();
        noCopyAsked();
        majorityOrDanger();
        majorityOfNone();
        digestLatest();
        digestOfNone();
        mendCounts();
        mendOutOfRange();
        staleOrNot();
        staleWhereItDoesNotCount();
        staleByDigestAlone();
        staleOfNone();
        fewerThanCopies();
        whetherTheyCountOrNot();
        notInDanger();
        hasNoneHere();
        fillsByNumbers();
        fillsAllForty();
        fillsAsWhenMended();
        fillOfNone();
        movesAsItIs();
        moveOfNone();
        moveToItself();
        moveWithoutAnAnswer();
        moveToOneThatHasOne();
    }

    private static void promises17To21() {
        ratesTaken();
        ratesRefused();
        rateOfNone();
        rateWithoutAnAnswer();
        oddsOfTheMajority();
        oddsInDanger();
        oddsInLeastTerms();
        oddsOfNothing();
        oddsWithoutACopy();
        oddsSides();
        oddsOfNone();
        oddsWithoutARate();
        oddsOfThoseAlone();
        atEachByte();
        atNoByte();
        atNoCopy();
        aboutCopies();
        aboutMendedOrFilled();
        aboutOfNone();
        loadCounts();
        loadOfNone();
    }

    public static void main(String[] args) {
        promises1To9();
        promises10To16();
        promises17To21();
        end();
    }
}
