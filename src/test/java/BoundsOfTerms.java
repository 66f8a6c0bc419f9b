/** The sentences of "What it is" and "Terms" that name a boundary, each with a test of its own. */
public final class BoundsOfTerms extends Sentences {
    private static final int[] NO_STORE = {LEAST, -10, -1, 10, 11, MOST};
    private static final int[] NO_FILE = {LEAST, -40, -1, 40, 41, MOST};
    private static final int[] NO_PACKAGE = {LEAST, -10, -1, 10, 11, MOST};

    // What it is

    private static void callsOfAnObject() {
        says("What it is", "An object is used for at most 512 calls after it has been made");
        House mended = House.of(3, 3);
        mended.file(0, 1);
        int times = 0;
        while (mended.calls() < House.MOST_CALLS - 1) {
            mended.alter(0, 0, 0, 2);
            times += mended.mend(0);
        }
        due("the 512th call, about(0, 3)", mended.about(0, 3), 253);
        due("the calls before", times, 253);

        House collected = House.of(1, 1);
        while (collected.calls() < House.MOST_CALLS - 2) {
            collected.octet(collected.calls());
        }
        due("put of 509 bytes, the 511th call", collected.put(0), 0);
        due("the 512th call, at(0, 0, 15)", collected.at(0, 0, 15), 16);

        House polled = House.of(5, 5);
        polled.file(0, 1);
        while (polled.calls() < House.MOST_CALLS - 2) {
            polled.poll(0, polled.calls());
        }
        due("the 511th call, poll(0, 1)", polled.poll(0, 1L), 3);
        due("the 512th call, polled(0, 1)", polled.polled(0, 1), 3);
    }

    private static void mostOfAllInOneObject() {
        says("What it is", "An object is used for at most 512 calls (ten stores and forty files among them)");
        House x = House.of(5, 10);
        for (int file = 0; file < 40; file++) {
            x.file(file % 10, same(10, file));
        }
        due("loads", x.loads(10), "20 20 20 20 20 20 20 20 20 20");
        due("bytes of file 39", x.bytes(9, 39), text(same(10, 39)));
        due("poll(9, 0)", x.poll(9, 0L), 12);
        due("mend(9)", x.mend(9), 0);
    }

    // Stores

    private static void noSuchStore(House x, int s) {
        due("answers(" + s + ", true)", x.answers(s, true), NONE);
        due("answers(" + s + ", false)", x.answers(s, false), NONE);
        due("alter(" + s + ", 0, 0, 1)", x.alter(s, 0, 0, 1), NONE);
        due("cut(" + s + ", 0, 0)", x.cut(s, 0, 0), NONE);
        due("lose(" + s + ", 0)", x.lose(s, 0), NONE);
        due("stale(" + s + ", 0)", x.stale(s, 0), NONE);
        due("fill(" + s + ")", x.fill(s), NONE);
        due("move(0, " + s + ", 0)", x.move(0, s, 0), NONE);
        due("move(0, 0, " + s + ")", x.move(0, 0, s), NONE);
        due("rate(" + s + ", 1, 2)", x.rate(s, 1, 2), NONE);
        due("at(" + s + ", 0, 0)", x.at(s, 0, 0), NONE);
        due("load(" + s + ")", x.load(s), NONE);
    }

    private static void storesAsTheyCome() {
        says("Terms", "STORES are 0 .. 9, as they come");
        House x = new House(1);
        int[] places = {7, 0, 9, 3, 1, 8, 2, 6, 4, 5};
        for (int number = 0; number < 10; number++) {
            due("load of the store to come", x.load(number), NONE);
            due("store(" + places[number] + ")", x.store(places[number]), number);
            due("load of the store that came", x.load(number), 0);
        }
    }

    private static void storesBeyond() {
        says("Terms", "STORES are 0 .. 9 (none is less or more)");
        House x = House.of(1, 10);
        x.file(0, 1);
        for (int s : NO_STORE) {
            noSuchStore(x, s);
        }
        due("loads", x.loads(10), "1 0 0 0 0 0 0 0 0 0");
        due("bytes", x.bytes(0, 0), "1");
    }

    private static void storesNotYetThere() {
        says("Terms", "STORES are 0 .. 9, as they come (not before they come)");
        House none = new House(1);
        noSuchStore(none, 0);
        noSuchStore(none, 9);
        House one = House.of(1, 1);
        one.file(0, 1);
        noSuchStore(one, 1);
        House nine = House.of(1, 9);
        nine.file(0, 1);
        noSuchStore(nine, 9);
        due("load(8)", nine.load(8), 0);
    }

    private static void theLastStore() {
        says("Terms", "STORES are 0 .. 9 (9 is one in every call)");
        House x = House.of(1, 10);
        x.answering("---------+");
        due("put(0)", x.file(0, 5, 6), 0);
        due("load(9)", x.load(9), 1);
        due("alter(9, 0, 0, 7)", x.alter(9, 0, 0, 7), 5);
        due("at(9, 0, 0)", x.at(9, 0, 0), 7);
        due("cut(9, 0, 1)", x.cut(9, 0, 1), 1);
        due("stale(9, 0)", x.stale(9, 0), 0);
        due("rate(9, 1, 4)", x.rate(9, 1, 4), 1);
        due("odds(0)", x.odds(0), "1/4");
        due("poll(0, 3)", x.poll(0, 3L), 1);
        due("polled(0, 1)", x.polled(0, 1), 9);
        due("fill(9)", x.fill(9), 0);
        due("answers(0, true)", x.answers(0, true), 1);
        due("move(0, 9, 0)", x.move(0, 9, 0), 1);
        due("move(0, 0, 9)", x.move(0, 0, 9), 1);
        due("answers(9, false)", x.answers(9, false), 1);
        due("lose(9, 0)", x.lose(9, 0), 1);
    }

    private static void places() {
        says("Terms", "each at a PLACE 0 .. 9 of its own");
        House x = new House(1);
        due("store(-1)", x.store(-1), RANGE);
        due("store(10)", x.store(10), RANGE);
        due("store(9)", x.store(9), 0);
        due("store(9)", x.store(9), STATE);
        due("store(0)", x.store(0), 1);
        due("store(0)", x.store(0), STATE);
        due("store(9)", x.store(9), STATE);
    }

    private static void answersAtFirst() {
        says("Terms", "a store ANSWERS (at first), or not");
        House x = House.of(5, 5);
        due("put(0) on five new stores", x.file(0, 1), 0);
        due("about(0, 2)", x.about(0, 2), 5);
        due("answers(4, false)", x.answers(4, false), 1);
        due("about(0, 2)", x.about(0, 2), 4);
        due("answers(4, true)", x.answers(4, true), 1);
        due("about(0, 2)", x.about(0, 2), 5);
    }

    // Files

    private static void noSuchFile(House x, int f) {
        due("alter(0, " + f + ", 0, 1)", x.alter(0, f, 0, 1), NONE);
        due("cut(0, " + f + ", 0)", x.cut(0, f, 0), NONE);
        due("lose(0, " + f + ")", x.lose(0, f), NONE);
        due("majority(" + f + ")", x.majority(f), NONE);
        due("stale(0, " + f + ")", x.stale(0, f), NONE);
        due("move(" + f + ", 0, 1)", x.move(f, 0, 1), NONE);
        due("odds(" + f + ", 0)", x.odds(f, 0), NONE);
        due("odds(" + f + ", 1)", x.odds(f, 1), NONE);
        due("at(0, " + f + ", 0)", x.at(0, f, 0), NONE);
        for (int what = 0; what < 4; what++) {
            due("about(" + f + ", " + what + ")", x.about(f, what), NONE);
        }
    }

    private static void filesAsTheyCome() {
        says("Terms", "FILES are 0 .. 39, as they come");
        House x = House.of(1, 1);
        for (int number = 0; number < 40; number++) {
            due("about the file to come", x.about(number, 0), NONE);
            due("put", x.file(9 - number % 10, number), number);
            due("about the file that came", x.about(number, 0), 9 - number % 10);
            due("its byte", x.at(0, number, 0), number);
        }
        due("put of a 41st", x.file(0, 1), FULL);
        due("about(40, 0)", x.about(40, 0), NONE);
    }

    private static void filesBeyond() {
        says("Terms", "FILES are 0 .. 39 (none is less or more)");
        House x = House.of(1, 2);
        for (int number = 0; number < 40; number++) {
            x.file(0, number);
        }
        for (int f : NO_FILE) {
            noSuchFile(x, f);
        }
        due("loads", x.loads(2), "20 20");
    }

    private static void filesNotYetThere() {
        says("Terms", "FILES are 0 .. 39, as they come (not before they come)");
        House none = House.of(1, 2);
        noSuchFile(none, 0);
        noSuchFile(none, 39);
        due("poll(0, 1)", none.poll(0, 1L), 0);
        due("mend(0)", none.mend(0), 0);
        due("fill(0)", none.fill(0), 0);
        due("loads", none.loads(2), "0 0");
        House one = House.of(1, 2);
        one.file(0, 1);
        noSuchFile(one, 1);
    }

    private static void theLastFile() {
        says("Terms", "FILES are 0 .. 39 (39 is one in every call)");
        House x = House.of(2, 3);
        for (int number = 0; number < 40; number++) {
            x.file(number == 39 ? 7 : 0, number);
        }
        due("about(39, 0)", x.about(39, 0), 7);
        due("about(39, 1)", x.about(39, 1), 2);
        due("at(0, 39, 0)", x.at(0, 39, 0), 39);
        due("at(1, 39, 0)", x.at(1, 39, 0), 39);
        due("alter(0, 39, 0, 1)", x.alter(0, 39, 0, 1), 39);
        due("majority(39)", x.majority(39), 0);
        due("lose(1, 39)", x.lose(1, 39), 1);
        due("majority(39)", x.majority(39), 1);
        due("fill(2)", x.fill(2), 1);
        due("stale(2, 39)", x.stale(2, 39), 0);
        due("poll(7, 1)", x.poll(7, 1L), 2);
        due("polled(0, 0)", x.polled(0, 0), 39);
        due("move(39, 2, 1)", x.move(39, 2, 1), 1);
        due("cut(1, 39, 0)", x.cut(1, 39, 0), 1);
        due("lose(0, 39)", x.lose(0, 39), 1);
        due("rate(1, 1, 3)", x.rate(1, 1, 3), 1);
        due("odds(39)", x.odds(39), "1/3");
        due("about(39, 3)", x.about(39, 3), 1);
    }

    private static void packages() {
        says("Terms", "each of a PACKAGE 0 .. 9");
        House x = House.of(3, 3);
        for (int pack = 0; pack < 10; pack++) {
            due("put(" + pack + ")", x.file(pack, pack), pack);
            due("about(" + pack + ", 0)", x.about(pack, 0), pack);
        }
        for (int pack = 0; pack < 10; pack++) {
            x.alter(0, pack, 0, 200);
            due("poll(" + pack + ", 1)", x.poll(pack, 1L), 3);
            due("polled(0, 0)", x.polled(0, 0), pack);
            due("mend(" + pack + ")", x.mend(pack), 1);
        }
        x.octet(1);
        for (int pack : NO_PACKAGE) {
            due("put(" + pack + ")", x.put(pack), RANGE);
            due("poll(" + pack + ", 1)", x.poll(pack, 1L), RANGE);
            due("mend(" + pack + ")", x.mend(pack), RANGE);
        }
    }

    private static void oneToSixteenBytes() {
        says("Terms", "bytes, 1 to 16");
        House x = House.of(1, 1);
        due("put of no bytes", x.put(0), RANGE);
        for (int size = 1; size <= 16; size++) {
            due("put of " + size, x.file(0, upTo(size)), size - 1);
            due("its bytes", x.bytes(0, size - 1), text(upTo(size)));
        }
        due("put of 17", x.file(0, upTo(17)), 16);
        due("its bytes", x.bytes(0, 16), text(upTo(16)));
    }

    private static void copyOrNone() {
        says("Terms", "A store has a COPY of a file, or none");
        House x = House.of(2, 3);
        x.file(0, 4);
        due("at(0, 0, 0)", x.at(0, 0, 0), 4);
        due("at(1, 0, 0)", x.at(1, 0, 0), 4);
        due("at(2, 0, 0)", x.at(2, 0, 0), NONE);
        due("loads", x.loads(3), "1 1 0");
    }

    private static void bytesOfTheirOwn() {
        says("Terms", "copies are bytes of their own, which may come to be others, or fewer");
        House x = House.of(3, 4);
        x.file(0, 1, 2, 3);
        x.file(0, 1, 2, 3);
        x.alter(0, 0, 0, 9);
        x.cut(1, 0, 1);
        due("bytes(0, 0)", x.bytes(0, 0), "9 2 3");
        due("bytes(1, 0)", x.bytes(1, 0), "1");
        due("bytes(2, 0)", x.bytes(2, 0), "1 2 3");
        due("bytes(0, 1)", x.bytes(0, 1), "1 2 3");
        due("bytes(1, 1)", x.bytes(1, 1), "1 2 3");
    }

    private static void bytesOfTheirOwnWhenRenewed() {
        says("Terms", "copies are bytes of their own (those that were mended, filled and moved too)");
        House x = House.of(3, 4);
        x.file(0, 1, 2);
        x.cut(0, 0, 0);
        x.mend(0);
        x.alter(0, 0, 0, 50);
        due("the copy that store 0 was mended from", x.bytes(1, 0), "1 2");
        due("the mended one", x.bytes(0, 0), "50 2");
        x.lose(0, 0);
        x.fill(3);
        x.alter(1, 0, 0, 60);
        due("the copy filled from store 1", x.bytes(3, 0), "1 2");
        x.move(0, 1, 0);
        x.cut(0, 0, 1);
        due("the moved one", x.bytes(0, 0), "60");
        due("another one", x.bytes(2, 0), "1 2");
    }

    // THE DIGEST

    private static int digestOf(int... bytes) {
        House x = House.of(1, 1);
        x.file(0, bytes);
        x.majority(0);
        return x.digest();
    }

    private static void digestOfNoBytes() {
        says("Terms", "THE DIGEST of a row of bytes: 7 at first (and of no bytes)");
        House x = House.of(1, 1);
        x.file(0, 1, 2);
        x.cut(0, 0, 0);
        due("majority(0)", x.majority(0), 1);
        due("digest()", x.digest(), 7);
        due("poll(0, 0)", x.poll(0, 0L), 1);
        due("polled(0, 2)", x.polled(0, 2), 7);
    }

    private static void digestOfTheLeastAndMostByte() {
        says("Terms", "THE DIGEST of a row of bytes (0 .. 255)");
        int[] bytes = {0, 1, 127, 128, 254, 255};
        int[] digests = {216, 219, 345, 344, 470, 473};
        for (int k = 0; k < bytes.length; k++) {
            due("of " + bytes[k], digestOf(bytes[k]), digests[k]);
        }
    }

    private static void digestOfEachSize() {
        says("Terms", "then for each byte 31 times itself and the byte; at last exclusive or of how many");
        int[] zeros = {7, 216, 6725, 208538, 6464643, 200404060, 1917558465, -685229538, 232720655,
            -1375594544, 306242381, 903579026, -2053821045, 756056916, 1962928073, 721228054, 883233303};
        int[] fulls = {7, 473, 14885, 461755, 14314563, 443751837, 871405153, 1243756415, -98256753,
            1249007953, 64541357, 2000782131, 1894704331, -1393707755, -255267095, 676654839, -498536169};
        for (int size = 1; size <= 16; size++) {
            due(size + " bytes 0", digestOf(same(size, 0)), zeros[size]);
            due(size + " bytes 255", digestOf(same(size, 255)), fulls[size]);
        }
        due("1 2 3", digestOf(1, 2, 3), 209560);
        due("3 2 1", digestOf(3, 2, 1), ((((7 * 31 + 3) * 31) + 2) * 31 + 1) ^ 3);
    }

    private static void digestWraps() {
        says("Terms", "THE DIGEST, of 32 bits");
        due("the last size that can't wrap", digestOf(255, 255, 255, 255, 255), 443751837);
        due("0", digestOf(83, 1, 8, 28, 17, 14), 0);
        due("all bits", digestOf(83, 1, 8, 28, 17, 1), -1);
        due("the least", digestOf(8, 0, 29, 29, 5, 12), LEAST);
        due("the most", digestOf(8, 0, 29, 29, 4, 30), MOST);
    }

    /** A DIGEST of 0 or -1 is one like others, though digest() tells 0 and calls answer -1 for none. */
    private static void digestThatLooksLikeNone() {
        says("Terms", "THE MAJORITY is the DIGEST (0 and -1 are some too)");
        for (int last : new int[] {14, 1}) {
            House x = House.of(3, 4);
            x.file(0, 83, 1, 8, 28, 17, last);
            x.rate(0, 1, 2);
            x.rate(1, 1, 3);
            x.alter(2, 0, 0, 0);
            due("majority(0)", x.majority(0), 1);
            due("digest()", x.digest(), last == 14 ? 0 : -1);
            due("stale(2, 0)", x.stale(2, 0), 1);
            due("stale(1, 0)", x.stale(1, 0), 0);
            due("odds(0)", x.odds(0), "1/6");
            due("poll(0, 0)", x.poll(0, 0L), 3);
            due("polled(0, 2)", x.polled(0, 2), last == 14 ? 0 : -1);
            due("mend(0)", x.mend(0), 1);
            x.lose(0, 0);
            due("fill(3)", x.fill(3), 1);
        }
    }

    // THE ORDER

    private static void orderByNumbers() {
        says("Terms", "THE ORDER of stores: then by numbers (not by places)");
        House x = new House(2);
        for (int place = 9; place >= 6; place--) {
            x.store(place);
        }
        x.file(0, 1);
        due("loads", x.loads(4), "1 1 0 0");
        x.file(0, 1);
        due("loads", x.loads(4), "1 1 1 1");
        x.file(0, 1);
        due("loads", x.loads(4), "2 2 1 1");
    }

    private static void orderByCopies() {
        says("Terms", "THE ORDER of stores: those with fewer copies (of any files) first");
        House x = House.of(1, 3);
        for (int pack = 0; pack < 7; pack++) {
            x.file(pack, 1);
        }
        due("loads", x.loads(3), "3 2 2");
        x.lose(2, 2);
        x.file(0, 1);
        due("the one that lost one", x.loads(3), "3 2 2");
        x.move(1, 1, 0);
        due("loads", x.loads(3), "4 1 2");
        x.file(0, 1);
        due("the one that a copy went from", x.loads(3), "4 2 2");
        x.cut(1, 4, 0);
        x.file(0, 1);
        x.file(0, 1);
        due("a copy without bytes is one", x.loads(3), "4 3 3");
        x.answers(1, false);
        x.file(0, 1);
        due("of those that answer", x.loads(3), "4 3 4");
        x.answers(1, true);
        x.file(0, 1);
        due("it answers again", x.loads(3), "4 4 4");
    }

    // THE MAJORITY

    /** A file with a copy on each store from 0 on, the digit k of the signs being what store k's says. */
    private static House voting(String signs) {
        House x = House.of(signs.length(), signs.length());
        x.file(0, 0);
        for (int store = 0; store < signs.length(); store++) {
            x.alter(store, 0, 0, signs.charAt(store) - '0');
        }
        return x;
    }

    private static void moreThanHalf() {
        says("Terms", "the DIGEST that more than half of the copies that COUNT have");
        String[] most = {"1", "11", "111", "112", "121", "211", "1111", "1112", "2111", "1211",
            "11111", "11112", "11122", "21211", "11123", "32111"};
        for (String signs : most) {
            House x = voting(signs);
            due("majority of " + signs, x.majority(0), 1);
            due("digest of " + signs, x.digest(), (7 * 31 + 1) ^ 1);
        }
    }

    private static void halfOrLess() {
        says("Terms", "more than half (half of them are too few)");
        String[] split = {"12", "123", "1122", "1212", "2112", "1123", "1234", "11223", "12312",
            "11234", "12345"};
        for (String signs : split) {
            House x = voting(signs);
            due("majority of " + signs, x.majority(0), 0);
            due("digest of " + signs, x.digest(), 0);
        }
    }

    private static void halfOfThoseThatCount() {
        says("Terms", "A COPY COUNTS if its store ANSWERS (and half is of these alone)");
        String[] answering = {"+++++", "--+++", "-++++", "---++", "----+", "+--+-", "+++--", "-+-++"};
        int[] most = {1, 2, 0, 2, 2, 0, 1, 2};
        for (int k = 0; k < most.length; k++) {
            House x = voting("11122");
            x.answering(answering[k]);
            String what = answering[k] + " of 11122";
            due("majority of " + what, x.majority(0), most[k] == 0 ? 0 : 1);
            due("digest of " + what, x.digest(), most[k] == 0 ? 0 : (7 * 31 + most[k]) ^ 1);
        }
    }

    private static void dangerWithoutACopy() {
        says("Terms", "a file without one (or without any that COUNTS) is in DANGER");
        House off = voting("11");
        off.answering("--");
        due("majority, none answers", off.majority(0), 0);
        due("stale, none answers", off.stale(0, 0), 0);
        due("mend, none answers", off.mend(0), 0);
        House lost = voting("11");
        lost.lose(0, 0);
        lost.lose(1, 0);
        due("majority, all lost", lost.majority(0), 0);
        due("mend, all lost", lost.mend(0), 0);
        due("fill, all lost", lost.fill(0), 0);
        House empty = voting("11");
        empty.cut(0, 0, 0);
        empty.cut(1, 0, 0);
        due("majority of copies without bytes", empty.majority(0), 1);
    }

    // A POLL

    private static void firstThreeOrAll() {
        says("Terms", "the first three of them (or all) are asked");
        String[] asked = {"", "0:0", "0:0 0:1", "0:1 0:0 0:2", "0:2 0:1 0:0", "0:4 0:3 0:1"};
        for (int count = 1; count <= 5; count++) {
            House x = House.of(count, count);
            x.file(0, 1);
            due("poll of " + count, x.poll(0, 0L), Math.min(3, count));
            due("asked of " + count, x.asked(), asked[count]);
        }
        House off = House.of(5, 5);
        off.file(0, 1);
        String[] signs = {"-----", "+----", "++---", "+++--", "++++-", "+++++"};
        for (int count = 0; count <= 5; count++) {
            off.answering(signs[count]);
            due("poll where " + count + " answer", off.poll(0, 0L), Math.min(3, count));
            due("asked where " + count + " answer", off.asked(), asked[count]);
        }
    }

    private static void pollsTheStoresThatCount() {
        says("Terms", "the stores whose copies COUNT, by numbers, are mixed");
        House x = House.of(5, 10);
        x.answering("-+-++--+-+");
        x.file(0, 1);
        x.answering("++++++++++");
        x.poll(0, 0L);
        due("seed 0", x.asked(), "0:9 0:7 0:3");
        x.poll(0, 12345L);
        due("seed 12345", x.asked(), "0:1 0:4 0:3");
        x.poll(0, -1L);
        due("seed -1", x.asked(), "0:4 0:1 0:3");
        x.answers(4, false);
        x.answers(9, false);
        x.poll(0, 0L);
        due("seed 0, three count", x.asked(), "0:3 0:1 0:7");
    }

    private static void seedsWrap() {
        says("Terms", "the seed becomes itself times 6364136223846793005 and 1442695040888963407 more (of 64 bits)");
        long[] seeds = {0L, 1L, -1L, Long.MAX_VALUE, Long.MIN_VALUE, 12345L};
        String[] asked = {"0:4 0:3 0:1", "0:3 0:2 0:0", "0:2 0:0 0:1", "0:1 0:2 0:0", "0:4 0:2 0:3",
            "0:0 0:2 0:1"};
        House x = House.of(5, 5);
        x.file(0, 1);
        for (int k = 0; k < seeds.length; k++) {
            due("poll(0, " + seeds[k] + ")", x.poll(0, seeds[k]), 3);
            due("asked", x.asked(), asked[k]);
        }
    }

    /** Seeds that become 0, all bits, the highest bit alone, all but it, and both sides of the 33rd bit. */
    private static void highestBitsOfTheSeed() {
        says("Terms", "(seed's highest 31 bits modulo k + 1)");
        long[] seeds = {-7379792620528906219L, -2810872687533676688L, 1843579416325869589L,
            6412499349321099120L, 4483922187169113968L, -84997745826115563L};
        String[] two = {"0:1 0:0", "0:0 0:1", "0:1 0:0", "0:0 0:1", "0:1 0:0", "0:0 0:1"};
        String[] three = {"0:2 0:1 0:0", "0:2 0:0 0:1", "0:0 0:2 0:1", "0:1 0:2 0:0", "0:2 0:1 0:0",
            "0:2 0:0 0:1"};
        String[] five = {"0:2 0:1 0:4", "0:3 0:1 0:4", "0:0 0:2 0:1", "0:4 0:2 0:1", "0:3 0:2 0:4",
            "0:2 0:3 0:4"};
        House x = House.of(5, 5);
        x.file(0, 1);
        for (int k = 0; k < seeds.length; k++) {
            x.answering("++---");
            x.poll(0, seeds[k]);
            due("two by " + seeds[k], x.asked(), two[k]);
            x.answering("+++--");
            x.poll(0, seeds[k]);
            due("three by " + seeds[k], x.asked(), three[k]);
            x.answering("+++++");
            x.poll(0, seeds[k]);
            due("five by " + seeds[k], x.asked(), five[k]);
        }
    }

    private static void seedGoesOn() {
        says("Terms", "The seed goes on from file to file");
        House x = House.of(5, 5);
        x.file(4, 1);
        x.file(4, 1);
        x.poll(4, 0L);
        due("two files of five", x.asked(), "0:4 0:3 0:1 1:4 1:1 1:2");
        House y = House.of(5, 5);
        y.file(4, 1);
        y.file(5, 1);
        y.file(4, 1);
        y.poll(4, 0L);
        due("a file of another package moves it not", y.asked(), "0:4 0:3 0:1 2:4 2:1 2:2");
        y.poll(5, 0L);
        due("each poll begins by its own", y.asked(), "1:4 1:3 1:1");
    }

    private static void seedStaysWithoutTwo() {
        says("Terms", "for k from the last place down to 1 (one copy or none leaves the seed)");
        House x = House.of(5, 5);
        x.file(0, 1);
        x.file(0, 1);
        x.file(0, 1);
        for (int store = 0; store < 5; store++) {
            x.lose(store, 0);
        }
        for (int store = 0; store < 4; store++) {
            x.lose(store, 1);
        }
        due("poll(0, 0)", x.poll(0, 0L), 4);
        due("asked", x.asked(), "1:4 2:4 2:3 2:1");
    }

    private static void polledFilesByNumbers() {
        says("Terms", "for each of its files, by numbers");
        House x = House.of(1, 2);
        for (int file = 0; file < 40; file++) {
            x.file(3, file);
        }
        due("poll(3, 9)", x.poll(3, 9L), 40);
        for (int file = 0; file < 40; file++) {
            due("polled(" + file + ", 0)", x.polled(file, 0), file);
            due("polled(" + file + ", 1)", x.polled(file, 1), file % 2);
        }
    }

    private static void polledMost() {
        says("Terms", "the first three of them are asked (of forty files)");
        House x = House.of(5, 10);
        for (int file = 0; file < 40; file++) {
            x.file(3, file);
        }
        due("poll(3, 77)", x.poll(3, 77L), 120);
        for (int i = 0; i < 120; i++) {
            due("polled(" + i + ", 0)", x.polled(i, 0), i / 3);
        }
        due("polled(119, 2)", x.polled(119, 2), (7 * 31 + 39) ^ 1);
        noIndex("polled(120, 0)", () -> x.polled(120, 0));
    }

    // TO MEND

    private static void mendsNothingInDanger() {
        says("Terms", "TO MEND a file that is not in DANGER");
        House x = voting("1122");
        due("mend", x.mend(0), 0);
        for (int store = 0; store < 4; store++) {
            due("byte on store " + store, x.at(store, 0, 0), store < 2 ? 1 : 2);
        }
        due("about(0, 3)", x.about(0, 3), 0);
    }

    private static void mendsWhatCounts() {
        says("Terms", "each copy that COUNTS and has another DIGEST becomes the bytes");
        House x = voting("21113");
        x.answers(4, false);
        due("mend", x.mend(0), 1);
        due("store 0", x.at(0, 0, 0), 1);
        due("store 4 does not answer", x.at(4, 0, 0), 3);
        x.answers(4, true);
        due("mend", x.mend(0), 1);
        due("store 4 answers", x.at(4, 0, 0), 1);
        due("mend once more", x.mend(0), 0);
    }

    private static void mendsSizes() {
        says("Terms", "becomes the bytes of the copy (longer and shorter ones too)");
        House longer = House.of(3, 3);
        longer.file(0, upTo(16));
        longer.cut(1, 0, 0);
        due("mend of one without bytes", longer.mend(0), 1);
        due("bytes", longer.bytes(1, 0), text(upTo(16)));
        House shorter = House.of(3, 3);
        shorter.file(0, upTo(16));
        shorter.cut(0, 0, 0);
        shorter.cut(2, 0, 0);
        due("mend by those without bytes", shorter.mend(0), 1);
        due("bytes", shorter.bytes(1, 0), "");
        due("at(1, 0, 0)", outcome(() -> shorter.at(1, 0, 0)), "ArrayIndexOutOfBoundsException");
    }

    /** The rows 1 0 and 0 31 have the same DIGEST. */
    private static void mendsFromTheLeastStore() {
        says("Terms", "the copy of THE MAJORITY on the store with the least number");
        House x = House.of(5, 5);
        x.file(0, 1, 0);
        x.alter(0, 0, 0, 200);
        x.alter(1, 0, 0, 0);
        x.alter(1, 0, 1, 31);
        x.alter(4, 0, 0, 100);
        due("mend", x.mend(0), 2);
        due("store 0", x.bytes(0, 0), "0 31");
        due("store 1", x.bytes(1, 0), "0 31");
        due("store 2 has that DIGEST", x.bytes(2, 0), "1 0");
        due("store 3 has that DIGEST", x.bytes(3, 0), "1 0");
        due("store 4", x.bytes(4, 0), "0 31");
    }

    private static void constants() {
        says("Terms", "NONE = -1, RANGE = -2, STATE = -3, FULL = -4");
        due("NONE", CopyPolls.NONE, -1);
        due("RANGE", CopyPolls.RANGE, -2);
        due("STATE", CopyPolls.STATE, -3);
        due("FULL", CopyPolls.FULL, -4);
    }

    public static void main(String[] args) {
        callsOfAnObject();
        mostOfAllInOneObject();
        storesAsTheyCome();
        storesBeyond();
        storesNotYetThere();
        theLastStore();
        places();
        answersAtFirst();
        filesAsTheyCome();
        filesBeyond();
        filesNotYetThere();
        theLastFile();
        packages();
        oneToSixteenBytes();
        copyOrNone();
        bytesOfTheirOwn();
        bytesOfTheirOwnWhenRenewed();
        digestOfNoBytes();
        digestOfTheLeastAndMostByte();
        digestOfEachSize();
        digestWraps();
        digestThatLooksLikeNone();
        orderByNumbers();
        orderByCopies();
        moreThanHalf();
        halfOrLess();
        halfOfThoseThatCount();
        dangerWithoutACopy();
        firstThreeOrAll();
        pollsTheStoresThatCount();
        seedsWrap();
        highestBitsOfTheSeed();
        seedGoesOn();
        seedStaysWithoutTwo();
        polledFilesByNumbers();
        polledMost();
        mendsNothingInDanger();
        mendsWhatCounts();
        mendsSizes();
        mendsFromTheLeastStore();
        constants();
        end();
    }
}
