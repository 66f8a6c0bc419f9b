import java.util.ArrayList;
import java.util.List;

/**
 * A CopyPolls that counts its calls: behind the 512th the document leaves every answer free, so a
 * test that goes further would test nothing and is itself at fault.
 */
final class House {
    static final int MOST_CALLS = 512;

    private final CopyPolls x;
    private int calls = 0;

    House(int copies) {
        x = new CopyPolls(copies);
    }

    /** A house with so many stores, store k at place k. */
    static House of(int copies, int stores) {
        House house = new House(copies);
        for (int place = 0; place < stores; place++) {
            house.store(place);
        }
        return house;
    }

    private CopyPolls called() {
        calls++;
        if (calls > MOST_CALLS) {
            throw new AssertionError("a test makes more than " + MOST_CALLS + " calls of one object");
        }
        return x;
    }

    int calls() {
        return calls;
    }

    int store(int place) {
        return called().store(place);
    }

    void octet(int b) {
        called().octet(b);
    }

    int put(int pack) {
        return called().put(pack);
    }

    int answers(int store, boolean on) {
        return called().answers(store, on);
    }

    int alter(int store, int file, int i, int b) {
        return called().alter(store, file, i, b);
    }

    int cut(int store, int file, int size) {
        return called().cut(store, file, size);
    }

    int lose(int store, int file) {
        return called().lose(store, file);
    }

    int poll(int pack, long seed) {
        return called().poll(pack, seed);
    }

    int polled(int i, int what) {
        return called().polled(i, what);
    }

    int majority(int file) {
        return called().majority(file);
    }

    int digest() {
        return called().digest();
    }

    int mend(int pack) {
        return called().mend(pack);
    }

    int stale(int store, int file) {
        return called().stale(store, file);
    }

    int fill(int store) {
        return called().fill(store);
    }

    int move(int file, int from, int to) {
        return called().move(file, from, to);
    }

    int rate(int store, int up, int down) {
        return called().rate(store, up, down);
    }

    long odds(int file, int side) {
        return called().odds(file, side);
    }

    int at(int store, int file, int i) {
        return called().at(store, file, i);
    }

    int about(int file, int what) {
        return called().about(file, what);
    }

    int load(int store) {
        return called().load(store);
    }

    /** The bytes are collected and put. */
    int file(int pack, int... bytes) {
        for (int b : bytes) {
            octet(b);
        }
        return put(pack);
    }

    /** All stores from 0 on answer whose letter is '+', and the others do not. */
    void answering(String signs) {
        for (int store = 0; store < signs.length(); store++) {
            answers(store, signs.charAt(store) == '+');
        }
    }

    /** The loads of the stores 0, 1, .. with a blank between them. */
    String loads(int stores) {
        List<String> loads = new ArrayList<>();
        for (int store = 0; store < stores; store++) {
            loads.add(Integer.toString(load(store)));
        }
        return String.join(" ", loads);
    }

    /** The bytes of a copy with a blank between them, as at() tells them; "none" without a copy. */
    String bytes(int store, int file) {
        List<String> bytes = new ArrayList<>();
        for (int i = 0; i <= 16; i++) {
            try {
                int b = at(store, file, i);
                if (b == CopyPolls.NONE) {
                    return "none";
                }
                bytes.add(Integer.toString(b));
            } catch (ArrayIndexOutOfBoundsException e) {
                return String.join(" ", bytes);
            }
        }
        return "more than 16 bytes";
    }

    /** The copies that the latest poll asked, as file:store with a blank between them. */
    String asked() {
        List<String> asked = new ArrayList<>();
        for (int i = 0; i <= 120; i++) {
            try {
                asked.add(polled(i, 0) + ":" + polled(i, 1));
            } catch (IndexOutOfBoundsException e) {
                return String.join(" ", asked);
            }
        }
        return "more than 120 copies";
    }

    /** A file's chance as above/below. */
    String odds(int file) {
        return odds(file, 0) + "/" + odds(file, 1);
    }
}
