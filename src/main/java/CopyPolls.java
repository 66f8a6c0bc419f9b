/**
 * Copies of files on stores that lose, alter and cut them: placed by rules, polled by seeds,
 * mended from the majority, moved and filled up, with the chance that all are lost.
 *
 * <p>A call that is refused (NONE, RANGE, STATE, FULL or an exception) changes nothing.
 */
public final class CopyPolls {
    public static final int NONE = -1;
    public static final int RANGE = -2;
    public static final int STATE = -3;
    public static final int FULL = -4;

    private static final int MOST_COPIES = 5;
    private static final int MOST_STORES = 10;
    private static final int PLACES = 10;
    private static final int MOST_FILES = 40;
    private static final int PACKAGES = 10;
    private static final int MOST_BYTES = 16;
    private static final int BYTE_MASK = 255;
    private static final int MOST_ASKED_OF_A_FILE = 3;
    private static final int MOST_DOWN = 1000;

    private static final int DIGEST_START = 7;
    private static final int DIGEST_FACTOR = 31;
    private static final long SEED_FACTOR = 6364136223846793005L;
    private static final long SEED_STEP = 1442695040888963407L;
    private static final int SEED_SHIFT = 33;

    /** Far above the steps that Euclid's way needs for two numbers of 64 bits. */
    private static final int MOST_DIVISIONS = 1000;

    private final int copies;
    private final Store[] stores = new Store[MOST_STORES];
    private int storeCount = 0;
    private final Item[] items = new Item[MOST_FILES];
    private int itemCount = 0;
    private final Row collected = new Row();

    private final int[] mixed = new int[MOST_STORES];
    private final int[] askedFiles = new int[MOST_FILES * MOST_ASKED_OF_A_FILE];
    private final int[] askedStores = new int[MOST_FILES * MOST_ASKED_OF_A_FILE];
    private final int[] askedDigests = new int[MOST_FILES * MOST_ASKED_OF_A_FILE];
    private int askedCount = 0;
    private int foundDigest = 0;

    public CopyPolls(int copies) {
        this.copies = Math.max(1, Math.min(MOST_COPIES, copies));
    }

    public int store(int place) {
        if (place < 0 || place >= PLACES) {
            return RANGE;
        }
        if (isTaken(place)) {
            return STATE;
        }
        if (storeCount >= MOST_STORES) {
            return FULL;
        }
        stores[storeCount] = new Store(place);
        storeCount++;
        return storeCount - 1;
    }

    public void octet(int b) {
        collected.append(b);
    }

    public int put(int package0) {
        if (!isPackage(package0) || collected.size == 0) {
            return RANGE;
        }
        if (answeringStores() < copies) {
            return STATE;
        }
        if (itemCount >= MOST_FILES) {
            return FULL;
        }
        Item item = new Item(package0);
        for (int k = 0; k < copies; k++) {
            placeCollected(item);
        }
        items[itemCount] = item;
        itemCount++;
        collected.size = 0;
        return itemCount - 1;
    }

    public int answers(int store, boolean on) {
        Store found = storeOf(store);
        if (found == null) {
            return NONE;
        }
        found.answering = on;
        return 1;
    }

    public int alter(int store, int file, int i, int b) {
        Row copy = copyOf(store, file);
        if (copy == null || !copy.has(i)) {
            return NONE;
        }
        int before = copy.bytes[i];
        copy.bytes[i] = b & BYTE_MASK;
        return before;
    }

    public int cut(int store, int file, int size) {
        Row copy = copyOf(store, file);
        if (copy == null) {
            return NONE;
        }
        if (size < 0 || size > copy.size) {
            return RANGE;
        }
        int lost = copy.size - size;
        copy.size = size;
        return lost;
    }

    public int lose(int store, int file) {
        Item item = itemOf(file);
        if (item == null || copyOf(store, file) == null) {
            return NONE;
        }
        item.rows[store] = null;
        return 1;
    }

    public int poll(int package0, long seed) {
        if (!isPackage(package0)) {
            return RANGE;
        }
        askedCount = 0;
        long going = seed;
        for (int file = 0; file < itemCount; file++) {
            Item item = items[file];
            if (item != null && item.pack == package0) {
                int counting = listCounting(item);
                going = mix(counting, going);
                ask(file, item, Math.min(counting, MOST_ASKED_OF_A_FILE));
            }
        }
        return askedCount;
    }

    public int polled(int i, int what) throws IndexOutOfBoundsException {
        if (i < 0 || i >= askedCount) {
            throw new IndexOutOfBoundsException("no such copy was asked");
        }
        switch (what) {
            case 0:
                return askedFiles[i];
            case 1:
                return askedStores[i];
            case 2:
                return askedDigests[i];
            default:
                return NONE;
        }
    }

    public int majority(int file) {
        Item item = itemOf(file);
        if (item == null) {
            return NONE;
        }
        Row model = majorityRow(item);
        foundDigest = model == null ? 0 : model.sum();
        return model == null ? 0 : 1;
    }

    public int digest() {
        return foundDigest;
    }

    public int mend(int package0) {
        if (!isPackage(package0)) {
            return RANGE;
        }
        int mended = 0;
        for (int file = 0; file < itemCount; file++) {
            Item item = items[file];
            if (item != null && item.pack == package0) {
                mended += mendItem(item);
            }
        }
        return mended;
    }

    public int stale(int store, int file) {
        Item item = itemOf(file);
        Row copy = copyOf(store, file);
        if (item == null || copy == null) {
            return NONE;
        }
        Row model = majorityRow(item);
        return model != null && model.sum() != copy.sum() ? 1 : 0;
    }

    public int fill(int store) {
        Store found = storeOf(store);
        if (found == null) {
            return NONE;
        }
        if (!found.answering) {
            return STATE;
        }
        int filled = 0;
        for (int file = 0; file < itemCount; file++) {
            Item item = items[file];
            if (item != null && fillItem(item, store)) {
                filled++;
            }
        }
        return filled;
    }

    public int move(int file, int from, int to) {
        Item item = itemOf(file);
        Row copy = copyOf(from, file);
        if (item == null || copy == null || storeOf(to) == null) {
            return NONE;
        }
        if (from == to || !isAnswering(from) || !isAnswering(to) || item.rows[to] != null) {
            return STATE;
        }
        item.rows[to] = copy;
        item.rows[from] = null;
        return 1;
    }

    public int rate(int store, int up, int down) {
        Store found = storeOf(store);
        if (found == null) {
            return NONE;
        }
        if (down < 1 || down > MOST_DOWN || up < 0 || up > down) {
            return RANGE;
        }
        found.up = up;
        found.down = down;
        return 1;
    }

    public long odds(int file, int side) throws ArithmeticException {
        Item item = itemOf(file);
        if (item == null) {
            return NONE;
        }
        Row model = majorityRow(item);
        long above = 1;
        long below = 1;
        for (int number = 0; number < storeCount; number++) {
            Store store = stores[number];
            if (store != null && bearsOdds(item, number, model)) {
                if (store.down == 0) {
                    throw new ArithmeticException("a store without a rate");
                }
                above *= store.up;
                below *= store.down;
            }
        }
        long common = commonDivisor(above, below);
        long told = side == 0 ? above : below;
        return common > 1 ? told / common : told;
    }

    public int at(int store, int file, int i) throws ArrayIndexOutOfBoundsException {
        Row copy = copyOf(store, file);
        if (copy == null) {
            return NONE;
        }
        if (!copy.has(i)) {
            throw new ArrayIndexOutOfBoundsException("no such byte");
        }
        return copy.bytes[i];
    }

    public int about(int file, int what) {
        Item item = itemOf(file);
        if (item == null) {
            return NONE;
        }
        switch (what) {
            case 0:
                return item.pack;
            case 1:
                return item.copyCount();
            case 2:
                return countingCopies(item);
            case 3:
                return item.renewed;
            default:
                return NONE;
        }
    }

    public int load(int store) {
        return storeOf(store) == null ? NONE : copiesOn(store);
    }

    private static boolean isPackage(int number) {
        return number >= 0 && number < PACKAGES;
    }

    private boolean isTaken(int place) {
        for (int number = 0; number < storeCount; number++) {
            Store store = stores[number];
            if (store != null && store.place == place) {
                return true;
            }
        }
        return false;
    }

    /** The store of that number, or null. Behind a store that is there, its number is a fit index of rows. */
    private Store storeOf(int number) {
        return number >= 0 && number < storeCount ? stores[number] : null;
    }

    private Item itemOf(int number) {
        return number >= 0 && number < itemCount ? items[number] : null;
    }

    private Row copyOf(int store, int file) {
        Item item = itemOf(file);
        return item == null || storeOf(store) == null ? null : item.rows[store];
    }

    private boolean isAnswering(int number) {
        Store store = storeOf(number);
        return store != null && store.answering;
    }

    private int answeringStores() {
        int answering = 0;
        for (int number = 0; number < storeCount; number++) {
            if (isAnswering(number)) {
                answering++;
            }
        }
        return answering;
    }

    private int copiesOn(int store) {
        int held = 0;
        for (int file = 0; file < itemCount; file++) {
            if (copyOf(store, file) != null) {
                held++;
            }
        }
        return held;
    }

    /**
     * A copy of what is collected goes to the first store in THE ORDER that has none yet. The item
     * is not among the items while it is placed, so its own copies do not change THE ORDER.
     */
    private void placeCollected(Item item) {
        int best = NONE;
        int fewest = 0;
        for (int number = 0; number < storeCount; number++) {
            if (isAnswering(number) && item.rows[number] == null) {
                int held = copiesOn(number);
                if (best == NONE || held < fewest) {
                    best = number;
                    fewest = held;
                }
            }
        }
        if (best != NONE) {
            item.rows[best] = collected.twin();
        }
    }

    /** The copy of an item on a store if it COUNTS, or null. */
    private Row countingRow(Item item, int store) {
        return isAnswering(store) ? item.rows[store] : null;
    }

    private int countingCopies(Item item) {
        int counting = 0;
        for (int number = 0; number < storeCount; number++) {
            if (countingRow(item, number) != null) {
                counting++;
            }
        }
        return counting;
    }

    /** Lists in mixed the stores whose copies COUNT, by numbers: how many. */
    private int listCounting(Item item) {
        int counting = 0;
        for (int number = 0; number < storeCount; number++) {
            if (counting < mixed.length && countingRow(item, number) != null) {
                mixed[counting] = number;
                counting++;
            }
        }
        return counting;
    }

    private long mix(int count, long seed) {
        long going = seed;
        for (int k = count - 1; k >= 1; k--) {
            going = going * SEED_FACTOR + SEED_STEP;
            int other = (int) (going >>> SEED_SHIFT) % (k + 1);
            int held = mixed[k];
            mixed[k] = mixed[other];
            mixed[other] = held;
        }
        return going;
    }

    private void ask(int file, Item item, int count) {
        for (int k = 0; k < count; k++) {
            Row copy = countingRow(item, mixed[k]);
            if (copy != null && askedCount < askedFiles.length) {
                askedFiles[askedCount] = file;
                askedStores[askedCount] = mixed[k];
                askedDigests[askedCount] = copy.sum();
                askedCount++;
            }
        }
    }

    /**
     * The copy that COUNTS and has THE MAJORITY on the store with the least number; null in DANGER.
     * All that ask for THE MAJORITY ask here, and majority() alone keeps what it found.
     */
    private Row majorityRow(Item item) {
        int counting = countingCopies(item);
        for (int number = 0; number < storeCount; number++) {
            Row copy = countingRow(item, number);
            if (copy != null && 2 * countingWith(item, copy.sum()) > counting) {
                return copy;
            }
        }
        return null;
    }

    private int countingWith(Item item, int sum) {
        int same = 0;
        for (int number = 0; number < storeCount; number++) {
            Row copy = countingRow(item, number);
            if (copy != null && copy.sum() == sum) {
                same++;
            }
        }
        return same;
    }

    private int mendItem(Item item) {
        Row model = majorityRow(item);
        if (model == null) {
            return 0;
        }
        int due = model.sum();
        int mended = 0;
        for (int number = 0; number < storeCount; number++) {
            Row copy = countingRow(item, number);
            if (copy != null && copy.sum() != due) {
                copy.become(model);
                mended++;
            }
        }
        item.renewed += mended;
        return mended;
    }

    private boolean fillItem(Item item, int store) {
        if (storeOf(store) == null || item.rows[store] != null || item.copyCount() >= copies) {
            return false;
        }
        Row model = majorityRow(item);
        if (model == null) {
            return false;
        }
        item.rows[store] = model.twin();
        item.renewed++;
        return true;
    }

    /** Whether a store's copy is one whose loss is reckoned: in DANGER (no model) each that COUNTS. */
    private boolean bearsOdds(Item item, int store, Row model) {
        Row copy = countingRow(item, store);
        return copy != null && (model == null || model.sum() == copy.sum());
    }

    private static long commonDivisor(long first, long second) {
        long larger = first;
        long smaller = second;
        for (int k = 0; k < MOST_DIVISIONS && smaller != 0; k++) {
            long rest = larger % smaller;
            larger = smaller;
            smaller = rest;
        }
        return larger;
    }

    /** A store at its place; down is 0 as long as it has no RATE. */
    private static final class Store {
        private final int place;
        private boolean answering = true;
        private int up = 0;
        private int down = 0;

        Store(int place) {
            this.place = place;
        }
    }

    /** A file: its copies by the numbers of the stores (null: none there). */
    private static final class Item {
        private final int pack;
        private final Row[] rows = new Row[MOST_STORES];
        private int renewed = 0;

        Item(int pack) {
            this.pack = pack;
        }

        int copyCount() {
            int count = 0;
            for (Row row : rows) {
                if (row != null) {
                    count++;
                }
            }
            return count;
        }
    }

    /** A row of bytes, 0 .. 255 each: what is collected, or one copy. */
    private static final class Row {
        private final int[] bytes = new int[MOST_BYTES];
        private int size = 0;

        boolean has(int i) {
            return i >= 0 && i < size;
        }

        void append(int b) {
            if (size < bytes.length) {
                bytes[size] = b & BYTE_MASK;
                size++;
            }
        }

        void become(Row other) {
            for (int i = 0; i < other.size; i++) {
                bytes[i] = other.bytes[i];
            }
            size = other.size;
        }

        Row twin() {
            Row twin = new Row();
            twin.become(this);
            return twin;
        }

        /** THE DIGEST. */
        int sum() {
            int sum = DIGEST_START;
            for (int i = 0; i < size; i++) {
                sum = DIGEST_FACTOR * sum + bytes[i];
            }
            return sum ^ size;
        }
    }
}
