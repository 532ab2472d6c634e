import java.math.BigInteger;
import java.util.ArrayList;
import java.util.Collections;
import java.util.List;
import java.util.Map;
import java.util.NoSuchElementException;
import java.util.TreeMap;
import java.util.TreeSet;

/**
 * A second room, written from the document with the library's collections and no care for speed,
 * against which the first one is held in random runs.
 */
final class PlainRoom {
    static final class Plain {
        char kind;
        int size;
        int second;
        int seed;
        long seen;
        /** What was seen, not wrapped around. */
        BigInteger all = BigInteger.ZERO;
        TreeSet<Integer> bits = new TreeSet<>();
        int[] registers = new int[64];
        TreeMap<Integer, Long> counters = new TreeMap<>();
        long error;
        long[][] rows = new long[6][64];
        List<List<Integer>> levels = new ArrayList<>();
        List<Integer> compactions = new ArrayList<>();
        List<Integer> sample = new ArrayList<>();
        int z;
        List<int[]> buckets = new ArrayList<>();
        Integer[] least = new Integer[16];
        long[] cellCounts = new long[60];
        int[] cellSums = new int[60];
        int[] cellHashes = new int[60];
    }

    final List<Plain> sketches = new ArrayList<>();
    final List<Integer> typed = new ArrayList<>();
    int time = 0;

    static int hash(int item, int seed) {
        int z = item * 0x9E3779B1 + seed * 0x85EBCA6B;
        z ^= z >>> 15;
        z *= 0xC2B2AE35;
        z ^= z >>> 13;
        return z;
    }

    static int place(int item, int seed, int n) {
        return (hash(item, seed) >>> 1) % n;
    }

    private static void require(boolean holds, RuntimeException otherwise) {
        if (!holds) {
            throw otherwise;
        }
    }

    private static void in(long number, long from, long to) {
        require(from <= number && number <= to, new IllegalArgumentException());
    }

    private Plain at(int sketch) {
        require(0 <= sketch && sketch < sketches.size(), new IndexOutOfBoundsException());
        return sketches.get(sketch);
    }

    private static void of(Plain plain, String kinds) {
        require(kinds.indexOf(plain.kind) >= 0, new UnsupportedOperationException());
    }

    private static void element(long index, long length) {
        require(0 <= index && index < length, new NoSuchElementException());
    }

    int hashOf(int item, int seed) {
        in(item, 0, 65535);
        in(seed, 0, 65535);
        return hash(item, seed);
    }

    int sketch(char kind, int size, int second, int seed) {
        in(seed, 0, 65535);
        boolean zero = second == 0;
        boolean fits = switch (kind) {
            case 'f' -> size >= 8 && size <= 256 && second >= 1 && second <= 8;
            case 'd' -> zero && List.of(4, 8, 16, 32, 64).contains(size);
            case 'h' -> zero && size >= 1 && size <= 8;
            case 'c' -> size >= 2 && size <= 64 && second >= 1 && second <= 6;
            case 'q' -> zero && List.of(2, 4, 6, 8, 10, 12, 14, 16).contains(size);
            case 's' -> zero && size >= 1 && size <= 10;
            case 'w' -> size >= 1 && size <= 1000 && second >= 1 && second <= 4;
            case 'm' -> zero && size >= 1 && size <= 16;
            case 'i' -> zero && size >= 3 && size <= 60 && size / 3 * 3 == size;
            default -> false;
        };
        require(fits, new IllegalArgumentException());
        require(sketches.size() < 10, new IllegalStateException());
        Plain plain = new Plain();
        plain.kind = kind;
        plain.size = size;
        plain.second = second;
        plain.seed = seed;
        plain.z = seed;
        sketches.add(plain);
        return sketches.size() - 1;
    }

    int addTyped(int sketch, int weight) {
        Plain plain = at(sketch);
        in(weight, 1, 1000);
        for (int item : typed) {
            see(plain, item, weight);
        }
        return typed.size();
    }

    int type(int item) {
        in(item, 0, 65535);
        require(typed.size() < 40, new IllegalStateException());
        typed.add(item);
        return typed.size();
    }

    int typeRow(int first, int step, int many) {
        in(first, 0, 65535);
        in(step, 0, 65535);
        in(many, 1, 40);
        require(typed.size() + many <= 40, new IllegalStateException());
        for (int i = 0; i < many; i++) {
            typed.add((int) ((first + (long) step * i) % 65536));
        }
        return typed.size();
    }

    int wipe() {
        int were = typed.size();
        typed.clear();
        return were;
    }

    private void see(Plain plain, int item, int weight) {
        int counted = "hc".indexOf(plain.kind) >= 0 ? weight : 1;
        plain.seen += counted;
        plain.all = plain.all.add(BigInteger.valueOf(counted));
        switch (plain.kind) {
            case 'f' -> {
                for (int i = 0; i < plain.second; i++) {
                    plain.bits.add(place(item, plain.seed + i, plain.size));
                }
            }
            case 'd' -> {
                int hash = hash(item, plain.seed);
                String digits = String.format("%32s", Integer.toBinaryString(hash)).replace(' ', '0');
                int zeros = digits.indexOf('1') < 0 ? 32 : digits.indexOf('1');
                int register = Math.floorMod(hash, plain.size);
                plain.registers[register] = Math.max(plain.registers[register], Math.min(20, 1 + zeros));
            }
            case 'h' -> seeHeavy(plain, item, weight);
            case 'c' -> {
                for (int row = 0; row < plain.second; row++) {
                    plain.rows[row][place(item, plain.seed + row, plain.size)] += weight;
                }
            }
            case 'q' -> {
                level(plain, 0).add(item);
                compact(plain);
            }
            case 's' -> {
                if (plain.sample.size() < plain.size) {
                    plain.sample.add(item);
                } else {
                    plain.z = plain.z * 1103515245 + 12345;
                    int drawn = (plain.z >>> 16) % (int) plain.seen;
                    if (drawn < plain.size) {
                        plain.sample.set(drawn, item);
                    }
                }
            }
            case 'w' -> seeWindow(plain);
            case 'm' -> {
                for (int i = 0; i < plain.size; i++) {
                    int hash = hash(item, plain.seed + i);
                    if (plain.least[i] == null || hash < plain.least[i]) {
                        plain.least[i] = hash;
                    }
                }
            }
            default -> put(plain, item, 1);
        }
    }

    private static void seeHeavy(Plain plain, int item, long weight) {
        TreeMap<Integer, Long> counters = plain.counters;
        if (counters.containsKey(item)) {
            counters.put(item, counters.get(item) + weight);
            return;
        }
        if (counters.size() < plain.size) {
            counters.put(item, weight);
            return;
        }
        long least = Math.min(weight, Collections.min(counters.values()));
        counters.replaceAll((each, count) -> count - least);
        counters.values().removeIf(count -> count == 0);
        plain.error += least;
        if (weight != least) {
            counters.put(item, weight - least);
        }
    }

    private static List<Integer> level(Plain plain, int level) {
        while (plain.levels.size() <= level) {
            plain.levels.add(new ArrayList<>());
            plain.compactions.add(0);
        }
        return plain.levels.get(level);
    }

    private static void compact(Plain plain) {
        while (true) {
            int lowest = -1;
            for (int level = plain.levels.size() - 1; level >= 0; level--) {
                if (plain.levels.get(level).size() > plain.size) {
                    lowest = level;
                }
            }
            if (lowest < 0) {
                return;
            }
            List<Integer> items = plain.levels.get(lowest);
            List<Integer> above = level(plain, lowest + 1);
            Collections.sort(items);
            Integer stays = items.size() % 2 == 1 ? items.remove(items.size() - 1) : null;
            int turn = plain.compactions.get(lowest);
            for (int i = 0; i < items.size(); i++) {
                if (i % 2 == turn % 2) {
                    above.add(items.get(i));
                }
            }
            items.clear();
            if (stays != null) {
                items.add(stays);
            }
            plain.compactions.set(lowest, turn + 1);
            plain.error += BigInteger.TWO.pow(lowest).longValue();
        }
    }

    private List<int[]> buckets(Plain plain) {
        plain.buckets.removeIf(bucket -> time - bucket[1] >= plain.size);
        return plain.buckets;
    }

    private void seeWindow(Plain plain) {
        List<int[]> buckets = buckets(plain);
        buckets.add(new int[] {1, time});
        for (int size = 1; size < 1 << 20; size *= 2) {
            while (true) {
                List<Integer> such = new ArrayList<>();
                for (int i = 0; i < buckets.size(); i++) {
                    if (buckets.get(i)[0] == size) {
                        such.add(i);
                    }
                }
                if (such.size() <= plain.second) {
                    break;
                }
                int[] younger = buckets.get(such.get(1));
                younger[0] *= 2;
                buckets.remove((int) such.get(0));
            }
        }
    }

    private static void put(Plain plain, int item, long by) {
        int third = plain.size / 3;
        for (int i = 0; i < 3; i++) {
            int cell = i * third + place(item, plain.seed + i, third);
            plain.cellCounts[cell] += by;
            plain.cellSums[cell] ^= item;
            plain.cellHashes[cell] ^= hash(item, plain.seed + 3);
        }
    }

    private static boolean oneMake(Plain one, Plain two) {
        return one.kind == two.kind && one.size == two.size && one.second == two.second && one.seed == two.seed;
    }

    long merge(int sketch, int other) {
        Plain one = at(sketch);
        Plain two = at(other);
        require(sketch != other && oneMake(one, two), new UnsupportedOperationException());
        of(one, "fdhcqmi");
        one.seen += two.seen;
        one.all = one.all.add(two.all);
        one.bits.addAll(two.bits);
        for (int i = 0; i < 64; i++) {
            one.registers[i] = Math.max(one.registers[i], two.registers[i]);
            for (int row = 0; row < 6; row++) {
                one.rows[row][i] += two.rows[row][i];
            }
        }
        one.error += two.error;
        for (Map.Entry<Integer, Long> each : two.counters.entrySet()) {
            one.counters.merge(each.getKey(), each.getValue(), Long::sum);
        }
        while (one.counters.size() > one.size) {
            List<Long> counts = new ArrayList<>(one.counters.values());
            counts.sort(Collections.reverseOrder());
            long taken = counts.get(one.size);
            one.counters.replaceAll((each, count) -> count - taken);
            one.counters.values().removeIf(count -> count <= 0);
            one.error += taken;
        }
        for (int level = 0; level < two.levels.size(); level++) {
            level(one, level).addAll(two.levels.get(level));
        }
        compact(one);
        for (int i = 0; i < 16; i++) {
            if (one.least[i] == null || two.least[i] != null && two.least[i] < one.least[i]) {
                one.least[i] = two.least[i];
            }
        }
        cells(one, two, 1);
        return one.seen;
    }

    private static void cells(Plain one, Plain two, int sign) {
        for (int i = 0; i < 60; i++) {
            one.cellCounts[i] += sign * two.cellCounts[i];
            one.cellSums[i] ^= two.cellSums[i];
            one.cellHashes[i] ^= two.cellHashes[i];
        }
    }

    /** Whether a sketch has seen more than a long can tell; the document is silent on some answers then. */
    boolean isBeyondALong(int sketch) {
        boolean isThere = sketch >= 0 && sketch < sketches.size();
        return isThere && sketches.get(sketch).all.bitLength() > 63;
    }

    char kind(int sketch) {
        return at(sketch).kind;
    }

    long seen(int sketch) {
        return at(sketch).seen;
    }

    private String content(Plain plain) {
        StringBuilder text = new StringBuilder();
        text.append(plain.bits).append(java.util.Arrays.toString(plain.registers)).append(plain.counters);
        text.append(plain.error).append(java.util.Arrays.deepToString(plain.rows));
        for (int level = 0; level < plain.levels.size(); level++) {
            List<Integer> sorted = new ArrayList<>(plain.levels.get(level));
            Collections.sort(sorted);
            text.append(sorted).append(plain.compactions.get(level) % 2);
        }
        text.append(plain.sample);
        for (int[] bucket : buckets(plain)) {
            text.append(bucket[0]).append('@').append(bucket[1]).append(' ');
        }
        text.append(java.util.Arrays.toString(plain.least)).append(java.util.Arrays.toString(plain.cellCounts));
        text.append(java.util.Arrays.toString(plain.cellSums)).append(java.util.Arrays.toString(plain.cellHashes));
        return text.toString();
    }

    boolean isSame(int sketch, int other) {
        Plain one = at(sketch);
        Plain two = at(other);
        return oneMake(one, two) && content(one).equals(content(two));
    }

    boolean may(int sketch, int item) {
        Plain plain = at(sketch);
        in(item, 0, 65535);
        of(plain, "f");
        for (int i = 0; i < plain.second; i++) {
            if (!plain.bits.contains(place(item, plain.seed + i, plain.size))) {
                return false;
            }
        }
        return true;
    }

    int ones(int sketch) {
        of(at(sketch), "f");
        return at(sketch).bits.size();
    }

    int register(int sketch, int index) {
        of(at(sketch), "d");
        element(index, at(sketch).size);
        return at(sketch).registers[index];
    }

    double distinct(int sketch) {
        Plain plain = at(sketch);
        of(plain, "d");
        double sum = 0;
        for (int i = 0; i < plain.size; i++) {
            sum += 1.0 / Math.pow(2, plain.registers[i]);
        }
        return 0.7 * plain.size * plain.size / sum;
    }

    long count(int sketch, int item) {
        Plain plain = at(sketch);
        in(item, 0, 65535);
        of(plain, "hc");
        if (plain.kind == 'h') {
            return plain.counters.getOrDefault(item, 0L);
        }
        long least = Long.MAX_VALUE;
        for (int row = 0; row < plain.second; row++) {
            least = Math.min(least, plain.rows[row][place(item, plain.seed + row, plain.size)]);
        }
        return least;
    }

    int heavyAt(int sketch, int index) {
        Plain plain = at(sketch);
        of(plain, "h");
        List<Integer> items = new ArrayList<>(plain.counters.keySet());
        items.sort((one, two) -> Long.compare(plain.counters.get(two), plain.counters.get(one)));
        element(index, items.size());
        return items.get(index);
    }

    long error(int sketch) {
        of(at(sketch), "hq");
        return at(sketch).error;
    }

    long excess(int sketch, int row, int item) {
        Plain plain = at(sketch);
        in(item, 0, 65535);
        of(plain, "c");
        element(row, plain.second);
        return plain.rows[row][place(item, plain.seed + row, plain.size)] - count(sketch, item);
    }

    long rank(int sketch, int item) {
        Plain plain = at(sketch);
        in(item, 0, 65535);
        of(plain, "q");
        return below(plain, item).longValue();
    }

    private static BigInteger below(Plain plain, int item) {
        BigInteger sum = BigInteger.ZERO;
        for (int level = 0; level < plain.levels.size(); level++) {
            for (int each : plain.levels.get(level)) {
                if (each < item) {
                    sum = sum.add(BigInteger.TWO.pow(level));
                }
            }
        }
        return sum;
    }

    int quantile(int sketch, int share) {
        Plain plain = at(sketch);
        in(share, 0, 100);
        of(plain, "q");
        require(plain.seen != 0, new NoSuchElementException());
        TreeSet<Integer> all = new TreeSet<>();
        for (List<Integer> level : plain.levels) {
            all.addAll(level);
        }
        BigInteger due = BigInteger.valueOf(plain.seen).multiply(BigInteger.valueOf(share));
        for (int item : all) {
            if (below(plain, item + 1).multiply(BigInteger.valueOf(100)).compareTo(due) >= 0) {
                return item;
            }
        }
        throw new AssertionError();
    }

    int kept(int sketch, int level) {
        Plain plain = at(sketch);
        require(level >= 0, new IllegalArgumentException());
        of(plain, "q");
        return level < plain.levels.size() ? plain.levels.get(level).size() : 0;
    }

    int keptAt(int sketch, int level, int index) {
        Plain plain = at(sketch);
        of(plain, "q");
        element(level, plain.levels.size());
        List<Integer> items = new ArrayList<>(plain.levels.get(level));
        Collections.sort(items);
        element(index, items.size());
        return items.get(index);
    }

    int sampleAt(int sketch, int index) {
        Plain plain = at(sketch);
        of(plain, "s");
        element(index, plain.sample.size());
        return plain.sample.get(index);
    }

    int tick(int ticks) {
        in(ticks, 1, 2000);
        require(time + ticks <= 99999, new IllegalStateException());
        time += ticks;
        return time;
    }

    int within(int sketch) {
        Plain plain = at(sketch);
        of(plain, "w");
        int sum = 0;
        for (int[] bucket : buckets(plain)) {
            sum += bucket[0];
        }
        return plain.buckets.isEmpty() ? 0 : sum - plain.buckets.get(0)[0] / 2;
    }

    int bucketAt(int sketch, int index) {
        Plain plain = at(sketch);
        of(plain, "w");
        element(index, buckets(plain).size());
        return plain.buckets.get(index)[0];
    }

    int leastAt(int sketch, int index) {
        Plain plain = at(sketch);
        of(plain, "m");
        element(index, plain.size);
        require(plain.least[index] != null, new NoSuchElementException());
        return plain.least[index];
    }

    int likeness(int sketch, int other) {
        Plain one = at(sketch);
        Plain two = at(other);
        of(one, "m");
        require(oneMake(one, two), new UnsupportedOperationException());
        int like = 0;
        for (int i = 0; i < one.size; i++) {
            if (java.util.Objects.equals(one.least[i], two.least[i])) {
                like++;
            }
        }
        return like;
    }

    private static int full(Plain plain) {
        int many = 0;
        for (int i = 0; i < plain.size; i++) {
            if (plain.cellCounts[i] != 0 || plain.cellSums[i] != 0 || plain.cellHashes[i] != 0) {
                many++;
            }
        }
        return many;
    }

    int subtract(int sketch, int other) {
        Plain one = at(sketch);
        Plain two = at(other);
        of(one, "i");
        require(sketch != other && oneMake(one, two), new UnsupportedOperationException());
        cells(one, two, -1);
        return full(one);
    }

    /** Lists items as {item, count}, and takes them out of the cells given. */
    private static List<int[]> peel(Plain plain) {
        List<int[]> listed = new ArrayList<>();
        int third = plain.size / 3;
        for (int cell = 0; cell < plain.size && listed.size() < 200; cell++) {
            long count = plain.cellCounts[cell];
            int item = plain.cellSums[cell];
            boolean isOne = count == 1 || count == -1;
            boolean isHash = plain.cellHashes[cell] == hash(item, plain.seed + 3);
            int part = cell / third;
            if (isOne && isHash && part * third + place(item, plain.seed + part, third) == cell) {
                put(plain, item, -count);
                listed.add(new int[] {item, (int) count});
                cell = -1;
            }
        }
        return listed;
    }

    private static Plain copy(Plain plain) {
        Plain copy = new Plain();
        copy.kind = plain.kind;
        copy.size = plain.size;
        copy.seed = plain.seed;
        cells(copy, plain, 1);
        return copy;
    }

    private List<Integer> peeledOf(int sketch, boolean isThere) {
        of(at(sketch), "i");
        List<Integer> items = new ArrayList<>();
        for (int[] each : peel(copy(at(sketch)))) {
            if (each[1] == 1 == isThere) {
                items.add(each[0]);
            }
        }
        return items;
    }

    int peeled(int sketch, boolean isThere) {
        return peeledOf(sketch, isThere).size();
    }

    int peeledAt(int sketch, boolean isThere, int index) {
        List<Integer> items = peeledOf(sketch, isThere);
        element(index, items.size());
        return items.get(index);
    }

    boolean isClean(int sketch) {
        of(at(sketch), "i");
        Plain copy = copy(at(sketch));
        peel(copy);
        return full(copy) == 0;
    }

    static int filterFailures(int bits, int hashes, int items, int seeds) {
        in(bits, 8, 256);
        in(hashes, 1, 8);
        in(items, 0, 40);
        in(seeds, 1, 500);
        int failures = 0;
        for (int seed = 0; seed < seeds; seed++) {
            PlainRoom room = new PlainRoom();
            room.sketch('f', bits, hashes, seed);
            if (items > 0) {
                room.typeRow(0, 1, items);
            }
            room.addTyped(0, 1);
            failures += room.may(0, items) ? 1 : 0;
        }
        return failures;
    }

    static int cellFailures(int cells, int items, int seeds) {
        in(cells, 3, 60);
        require(cells % 3 == 0, new IllegalArgumentException());
        in(items, 0, 40);
        in(seeds, 1, 100);
        int failures = 0;
        for (int seed = 0; seed < seeds; seed++) {
            PlainRoom room = new PlainRoom();
            room.sketch('i', cells, 0, seed);
            if (items > 0) {
                room.typeRow(0, 1, items);
            }
            room.addTyped(0, 1);
            failures += room.peeledOf(0, true).containsAll(room.typed) ? 0 : 1;
        }
        return failures;
    }

    static int leastBits(int items, int seeds, int most) {
        in(items, 0, 40);
        in(seeds, 1, 100);
        in(most, 0, Integer.MAX_VALUE);
        for (int bits = 8; bits <= 256; bits++) {
            if (filterFailures(bits, 1, items, seeds) <= most) {
                return bits;
            }
        }
        throw new NoSuchElementException();
    }

    float seenShare() {
        require(!sketches.isEmpty(), new ArithmeticException());
        int those = 0;
        for (Plain plain : sketches) {
            those += plain.seen != 0 ? 1 : 0;
        }
        return (float) those / (float) sketches.size();
    }

    long checksum() {
        long sum = 7;
        for (int i = 0; i < sketches.size(); i++) {
            sum = sum * 31 + sketches.get(i).seen;
            sum = sum * 31 + figure(i);
        }
        return sum;
    }

    private long figure(int sketch) {
        Plain plain = at(sketch);
        long sum = 0;
        switch (plain.kind) {
            case 'f' -> sum = plain.bits.size();
            case 'd' -> {
                for (int register : plain.registers) {
                    sum += register;
                }
            }
            case 'h' -> {
                for (long count : plain.counters.values()) {
                    sum += count;
                }
            }
            case 'c' -> {
                for (long count : plain.rows[0]) {
                    sum += count;
                }
            }
            case 'q' -> {
                for (List<Integer> level : plain.levels) {
                    sum += level.size();
                }
            }
            case 's' -> {
                for (int item : plain.sample) {
                    sum += item;
                }
            }
            case 'w' -> sum = within(sketch);
            case 'm' -> {
                for (Integer hash : plain.least) {
                    sum += hash == null ? 0 : hash;
                }
            }
            default -> {
                for (long count : plain.cellCounts) {
                    sum += count;
                }
            }
        }
        return sum;
    }
}
