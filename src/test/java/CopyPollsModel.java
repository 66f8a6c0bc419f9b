import java.math.BigInteger;
import java.util.ArrayList;
import java.util.Collections;
import java.util.Comparator;
import java.util.HashMap;
import java.util.List;
import java.util.Map;
import java.util.TreeMap;

/**
 * Long mixed runs of calls on the class and on a second, plain writing of the document with the
 * library's maps and big numbers. The runs come from fixed seeds. What the document leaves open
 * (polled() of no copy and no what at once, digest() behind a majority() of no file) is not called.
 */
public final class CopyPollsModel {
    private static final int RUNS = 3000;
    /** An object is used for 512 calls at the most; a step makes 21 at the most. */
    private static final int CALLS_IN_STEPS = 400;
    private static final int CALLS_IN_ALL = 512;

    private static long dice;
    private static int calls;

    private static int roll(int sides) {
        dice = dice * 2862933555777941757L + 3037000493L;
        return (int) ((dice >>> 33) % sides);
    }

    /** Mostly a number from 0 up to most, seldom one that can't be. */
    private static int number(int most) {
        int[] odd = {-1, most + 1, 10, 40, Integer.MAX_VALUE, Integer.MIN_VALUE};
        return roll(24) == 0 ? odd[roll(odd.length)] : roll(most + 1);
    }

    /** The document, written once more. */
    private static final class Model {
        final int copies;
        final List<Integer> places = new ArrayList<>();
        final List<Boolean> on = new ArrayList<>();
        final Map<Integer, BigInteger[]> rates = new HashMap<>();
        final List<Integer> packages = new ArrayList<>();
        final List<TreeMap<Integer, List<Integer>>> files = new ArrayList<>();
        final Map<Integer, Integer> renewed = new HashMap<>();
        List<Integer> collected = new ArrayList<>();
        List<int[]> asked = new ArrayList<>();
        int found = 0;

        Model(int copies) {
            this.copies = copies < 1 ? 1 : copies > 5 ? 5 : copies;
        }

        static int digestOf(List<Integer> row) {
            BigInteger sum = BigInteger.valueOf(7);
            for (int b : row) {
                sum = sum.multiply(BigInteger.valueOf(31)).add(BigInteger.valueOf(b));
            }
            return sum.intValue() ^ row.size();
        }

        boolean isStore(int s) {
            return s >= 0 && s < places.size();
        }

        boolean isFile(int f) {
            return f >= 0 && f < files.size();
        }

        boolean isCopy(int s, int f) {
            return isStore(s) && isFile(f) && files.get(f).containsKey(s);
        }

        TreeMap<Integer, List<Integer>> counting(int f) {
            TreeMap<Integer, List<Integer>> those = new TreeMap<>(files.get(f));
            those.keySet().removeIf(s -> !on.get(s));
            return those;
        }

        /** The bytes that a file is mended from, or null in DANGER. */
        List<Integer> source(int f) {
            TreeMap<Integer, List<Integer>> those = counting(f);
            Map<Integer, Integer> votes = new HashMap<>();
            those.values().forEach(row -> votes.merge(digestOf(row), 1, Integer::sum));
            for (List<Integer> row : those.values()) {
                if (votes.get(digestOf(row)) > those.size() - votes.get(digestOf(row))) {
                    return row;
                }
            }
            return null;
        }

        long store(int place) {
            if (place < 0 || place > 9) {
                return -2;
            }
            if (places.contains(place)) {
                return -3;
            }
            places.add(place);
            on.add(true);
            return places.size() - 1;
        }

        void octet(int b) {
            if (collected.size() < 16) {
                collected.add(Math.floorMod(b, 256));
            }
        }

        long put(int pack) {
            List<Integer> order = new ArrayList<>();
            for (int s = 0; s < places.size(); s++) {
                if (on.get(s)) {
                    order.add(s);
                }
            }
            if (pack < 0 || pack > 9 || collected.isEmpty()) {
                return -2;
            }
            if (order.size() < copies) {
                return -3;
            }
            if (files.size() == 40) {
                return -4;
            }
            order.sort(Comparator.comparing(this::load).thenComparing(s -> s));
            TreeMap<Integer, List<Integer>> file = new TreeMap<>();
            order.subList(0, copies).forEach(s -> file.put(s, new ArrayList<>(collected)));
            files.add(file);
            packages.add(pack);
            collected = new ArrayList<>();
            return files.size() - 1;
        }

        long answers(int s, boolean to) {
            if (!isStore(s)) {
                return -1;
            }
            on.set(s, to);
            return 1;
        }

        long alter(int s, int f, int i, int b) {
            if (!isCopy(s, f) || i < 0 || i >= files.get(f).get(s).size()) {
                return -1;
            }
            return files.get(f).get(s).set(i, Math.floorMod(b, 256));
        }

        long cut(int s, int f, int size) {
            if (!isCopy(s, f)) {
                return -1;
            }
            List<Integer> row = files.get(f).get(s);
            if (size < 0 || size > row.size()) {
                return -2;
            }
            int lost = row.size() - size;
            row.subList(size, row.size()).clear();
            return lost;
        }

        long lose(int s, int f) {
            return isCopy(s, f) && files.get(f).remove(s) != null ? 1 : -1;
        }

        long poll(int pack, long seed) {
            if (pack < 0 || pack > 9) {
                return -2;
            }
            asked = new ArrayList<>();
            BigInteger wheel = BigInteger.ONE.shiftLeft(64);
            BigInteger going = BigInteger.valueOf(seed).mod(wheel);
            for (int f = 0; f < files.size(); f++) {
                if (packages.get(f) != pack) {
                    continue;
                }
                List<Integer> those = new ArrayList<>(counting(f).keySet());
                for (int k = those.size() - 1; k > 0; k--) {
                    going = going.multiply(new BigInteger("6364136223846793005"))
                        .add(new BigInteger("1442695040888963407")).mod(wheel);
                    int other = going.shiftRight(33).mod(BigInteger.valueOf(k + 1)).intValue();
                    Collections.swap(those, k, other);
                }
                for (int s : those.subList(0, Math.min(3, those.size()))) {
                    asked.add(new int[] {f, s, digestOf(files.get(f).get(s))});
                }
            }
            return asked.size();
        }

        long majority(int f) {
            if (!isFile(f)) {
                return -1;
            }
            List<Integer> source = source(f);
            found = source == null ? 0 : digestOf(source);
            return source == null ? 0 : 1;
        }

        long mend(int pack) {
            if (pack < 0 || pack > 9) {
                return -2;
            }
            int mended = 0;
            for (int f = 0; f < files.size(); f++) {
                List<Integer> source = source(f);
                if (packages.get(f) != pack || source == null) {
                    continue;
                }
                for (int s : counting(f).keySet()) {
                    if (digestOf(files.get(f).get(s)) != digestOf(source)) {
                        files.get(f).put(s, new ArrayList<>(source));
                        renewed.merge(f, 1, Integer::sum);
                        mended++;
                    }
                }
            }
            return mended;
        }

        long stale(int s, int f) {
            if (!isCopy(s, f)) {
                return -1;
            }
            List<Integer> source = source(f);
            return source == null || digestOf(source) == digestOf(files.get(f).get(s)) ? 0 : 1;
        }

        long fill(int s) {
            if (!isStore(s)) {
                return -1;
            }
            if (!on.get(s)) {
                return -3;
            }
            int filled = 0;
            for (int f = 0; f < files.size(); f++) {
                List<Integer> source = source(f);
                if (source != null && files.get(f).size() < copies && !files.get(f).containsKey(s)) {
                    files.get(f).put(s, new ArrayList<>(source));
                    renewed.merge(f, 1, Integer::sum);
                    filled++;
                }
            }
            return filled;
        }

        long move(int f, int from, int to) {
            if (!isCopy(from, f) || !isStore(to)) {
                return -1;
            }
            if (from == to || !on.get(from) || !on.get(to) || isCopy(to, f)) {
                return -3;
            }
            files.get(f).put(to, files.get(f).remove(from));
            return 1;
        }

        long rate(int s, int up, int down) {
            if (!isStore(s)) {
                return -1;
            }
            if (up < 0 || up > down || down < 1 || down > 1000) {
                return -2;
            }
            rates.put(s, new BigInteger[] {BigInteger.valueOf(up), BigInteger.valueOf(down)});
            return 1;
        }

        long odds(int f, int side) {
            if (!isFile(f)) {
                return -1;
            }
            List<Integer> source = source(f);
            BigInteger up = BigInteger.ONE;
            BigInteger down = BigInteger.ONE;
            for (Map.Entry<Integer, List<Integer>> copy : counting(f).entrySet()) {
                if (source == null || digestOf(copy.getValue()) == digestOf(source)) {
                    if (!rates.containsKey(copy.getKey())) {
                        throw new ArithmeticException();
                    }
                    up = up.multiply(rates.get(copy.getKey())[0]);
                    down = down.multiply(rates.get(copy.getKey())[1]);
                }
            }
            BigInteger common = up.gcd(down);
            return (side == 0 ? up : down).divide(common).longValueExact();
        }

        long at(int s, int f, int i) {
            if (!isCopy(s, f)) {
                return -1;
            }
            List<Integer> row = files.get(f).get(s);
            if (i < 0 || i >= row.size()) {
                throw new ArrayIndexOutOfBoundsException();
            }
            return row.get(i);
        }

        long polled(int i, int what) {
            if (i < 0 || i >= asked.size()) {
                throw new IndexOutOfBoundsException();
            }
            return what < 0 || what > 2 ? -1 : asked.get(i)[what];
        }

        long about(int f, int what) {
            if (!isFile(f) || what < 0 || what > 3) {
                return -1;
            }
            return what == 0 ? packages.get(f)
                : what == 1 ? files.get(f).size()
                : what == 2 ? counting(f).size()
                : renewed.getOrDefault(f, 0);
        }

        long load(int s) {
            return isStore(s) ? files.stream().filter(file -> file.containsKey(s)).count() : -1;
        }
    }

    private interface Call {
        long answer();
    }

    private static String outcome(Call call) {
        try {
            return Long.toString(call.answer());
        } catch (RuntimeException e) {
            return e.getClass().getName();
        }
    }

    private static int wrong = 0;

    private static void same(String where, Call got, Call want) {
        calls++;
        String answered = outcome(got);
        String due = outcome(want);
        if (!answered.equals(due)) {
            wrong++;
            if (wrong <= 20) {
                System.out.println(where + " answered " + answered + ", due is " + due);
            }
        }
    }

    /** A small row of bytes is altered to few values, so that majorities and equal digests come often. */
    private static int few() {
        int[] values = {0, 1, 31, 62, 255, 256, -1};
        return values[roll(values.length)];
    }

    private static void step(String where, CopyPolls x, Model m) {
        int stores = Math.max(0, m.places.size() - 1);
        int files = Math.max(0, m.files.size() - 1);
        int a = number(stores);
        int f = number(files);
        int t = number(stores);
        int i = number(roll(3) == 0 ? 16 : 2);
        int b = few();
        int pack = number(roll(2) == 0 ? 9 : 2);
        long seed = dice * 31 + roll(1000);
        boolean to = roll(4) != 0;
        switch (roll(22)) {
            case 0 -> same(where + "store", () -> x.store(i), () -> m.store(i));
            case 1 -> put(where, x, m, pack);
            case 2 -> put(where, x, m, pack);
            case 3 -> same(where + "answers", () -> x.answers(a, to), () -> m.answers(a, to));
            case 4, 5 -> same(where + "alter", () -> x.alter(a, f, i, b), () -> m.alter(a, f, i, b));
            case 6 -> same(where + "cut", () -> x.cut(a, f, i), () -> m.cut(a, f, i));
            case 7, 8 -> same(where + "lose", () -> x.lose(a, f), () -> m.lose(a, f));
            case 9, 10 -> poll(where, x, m, pack, seed);
            case 11 -> majority(where, x, m, f);
            case 12 -> same(where + "mend", () -> x.mend(pack), () -> m.mend(pack));
            case 13 -> same(where + "stale", () -> x.stale(a, f), () -> m.stale(a, f));
            case 14 -> same(where + "fill", () -> x.fill(a), () -> m.fill(a));
            case 15, 16 -> same(where + "move", () -> x.move(f, a, t), () -> m.move(f, a, t));
            case 17 -> rate(where, x, m, a);
            case 18 -> same(where + "odds", () -> x.odds(f, i), () -> m.odds(f, i));
            case 19 -> same(where + "at", () -> x.at(a, f, i), () -> m.at(a, f, i));
            case 20 -> same(where + "about", () -> x.about(f, i), () -> m.about(f, i));
            default -> same(where + "load", () -> x.load(a), () -> m.load(a));
        }
    }

    private static void put(String where, CopyPolls x, Model m, int pack) {
        for (int k = roll(8) == 0 ? roll(20) : roll(4); k > 0; k--) {
            int b = few();
            calls++;
            x.octet(b);
            m.octet(b);
        }
        same(where + "put", () -> x.put(pack), () -> m.put(pack));
    }

    private static void poll(String where, CopyPolls x, Model m, int pack, long seed) {
        same(where + "poll", () -> x.poll(pack, seed), () -> m.poll(pack, seed));
        for (int k = 0; k < 4; k++) {
            int i = number(Math.max(0, m.asked.size()));
            int what = i >= 0 && i < m.asked.size() ? number(3) : roll(3);
            same(where + "polled", () -> x.polled(i, what), () -> m.polled(i, what));
        }
    }

    private static void majority(String where, CopyPolls x, Model m, int f) {
        same(where + "majority", () -> x.majority(f), () -> m.majority(f));
        if (m.isFile(f)) {
            same(where + "digest", () -> x.digest(), () -> m.found);
        }
    }

    private static void rate(String where, CopyPolls x, Model m, int s) {
        int[] downs = {1, 2, 7, 997, 999, 1000, 1001, 0, -1, roll(1000) + 1};
        int down = downs[roll(downs.length)];
        int up = number(Math.max(0, down));
        same(where + "rate", () -> x.rate(s, up, down), () -> m.rate(s, up, down));
    }

    /** Looks at bytes and counts that no call of the run may have asked for. */
    private static void sameAtLast(String where, CopyPolls x, Model m) {
        while (calls < CALLS_IN_ALL && !m.files.isEmpty()) {
            int f = roll(m.files.size());
            int s = roll(m.places.size());
            int i = roll(17);
            if (roll(4) == 0) {
                same(where + "about", () -> x.about(f, i % 4), () -> m.about(f, i % 4));
            } else {
                same(where + "at", () -> x.at(s, f, i), () -> m.at(s, f, i));
            }
        }
    }

    private static void run(int run) {
        dice = run * 7919L;
        calls = 0;
        int copies = number(6);
        CopyPolls x = new CopyPolls(copies);
        Model m = new Model(copies);
        for (int k = roll(11); k > 0; k--) {
            int place = roll(10);
            same("run " + run + ": store", () -> x.store(place), () -> m.store(place));
        }
        for (int step = 0; calls < CALLS_IN_STEPS; step++) {
            step("run " + run + ", step " + step + ": ", x, m);
        }
        sameAtLast("run " + run + ", at last: ", x, m);
    }

    public static void main(String[] args) {
        Watch.start();
        for (int run = 0; run < RUNS; run++) {
            run(run);
        }
        System.out.println(wrong == 0 ? "all runs answer as the model" : wrong + " answers are not the model's");
        if (wrong != 0) {
            System.exit(1);
        }
    }
}
