import java.util.Arrays;
import java.util.NoSuchElementException;

/** A room of sketches, in which much is remembered in little. */
public final class Sketchery {
    private static final int MOST_SKETCHES = 10;
    private static final int MOST_TYPED = 40;
    private static final int ITEMS = 65536;
    private static final int LAST_TIME = 99999;

    private static final int MOST_BITS = 256;
    private static final int MOST_REGISTERS = 64;
    private static final int MOST_REGISTER = 20;
    private static final int MOST_COUNTERS = 8;
    private static final int MOST_PLACES = 64;
    private static final int MOST_ROWS = 6;
    private static final int MOST_SAMPLE = 10;
    private static final int MOST_LEAST = 16;
    private static final int MOST_CELLS = 60;
    private static final int MOST_PEELED = 200;

    // Sizes of buckets double, and one room adds no more than 40 items in each of 512 calls.
    private static final int MOST_BUCKETS = 128;
    private static final int LARGEST_BUCKET = 1 << 20;

    // While a merge is compacted, a level holds less than four times 16 items.
    private static final int LEVEL_ROOM = 64;
    private static final int FIRST_LEVELS = 16;
    // Merging in turn lets the weight grow by less than 1.62 times a call: 512 calls reach no level 400.
    private static final int MOST_LEVELS = 512;

    private final Sketch[] sketches = new Sketch[MOST_SKETCHES];
    private int made = 0;
    private final int[] typedItems = new int[MOST_TYPED];
    private int typed = 0;
    private int time = 0;
    private final Filter spareFilter = new Filter(MOST_BITS, 1, 0);
    private final Peeling peeling = new Peeling();

    public Sketchery() {
    }

    // ---- hashes and sketches

    public int hash(int item, int seed) throws IllegalArgumentException {
        checkItem(item);
        checkRange(seed, 0, 65535);
        return hashOf(item, seed);
    }

    public int sketch(char kind, int size, int second, int seed)
            throws IllegalArgumentException, IllegalStateException {
        if (!isMake(kind, size, second)) {
            throw new IllegalArgumentException("no such kind, or out of range for it");
        }
        checkRange(seed, 0, 65535);
        if (made >= MOST_SKETCHES || made >= sketches.length) {
            throw new IllegalStateException("there are ten sketches");
        }
        int number = made;
        sketches[number] = newSketch(kind, size, second, seed);
        made++;
        return number;
    }

    public int addTyped(int sketch, int weight) throws IndexOutOfBoundsException, IllegalArgumentException {
        Sketch found = sketchAt(sketch);
        checkRange(weight, 1, 1000);
        for (int i = 0; i < typed && i < typedItems.length; i++) {
            found.see(typedItems[i], weight);
        }
        return typed;
    }

    public int type(int item) throws IllegalArgumentException, IllegalStateException {
        checkItem(item);
        checkRoomToType(1);
        typeOne(item);
        return typed;
    }

    public int typeRow(int first, int step, int many) throws IllegalArgumentException, IllegalStateException {
        checkItem(first);
        checkRange(step, 0, 65535);
        checkRange(many, 1, MOST_TYPED);
        checkRoomToType(many);
        int item = first;
        for (int i = 0; i < many; i++) {
            typeOne(item);
            item = (item + step) % ITEMS;
        }
        return typed;
    }

    public int wipe() {
        int were = typed;
        typed = 0;
        return were;
    }

    public long merge(int sketch, int other) throws IndexOutOfBoundsException, UnsupportedOperationException {
        Sketch mine = sketchAt(sketch);
        Sketch its = sketchAt(other);
        if (sketch == other || !mine.isOfMake(its) || mine.letter == 's' || mine.letter == 'w') {
            throw new UnsupportedOperationException("these are not merged");
        }
        mine.takeIn(its);
        mine.weightSeen += its.weightSeen;
        mine.hasSeen = mine.hasSeen || its.hasSeen;
        return mine.weightSeen;
    }

    public char kind(int sketch) throws IndexOutOfBoundsException {
        return sketchAt(sketch).letter;
    }

    public long seen(int sketch) throws IndexOutOfBoundsException {
        return sketchAt(sketch).weightSeen;
    }

    public boolean isSame(int sketch, int other) throws IndexOutOfBoundsException {
        Sketch mine = sketchAt(sketch);
        Sketch its = sketchAt(other);
        return mine.isOfMake(its) && mine.holdsWhat(its);
    }

    // ---- filters, distinct and heavy items, counts

    public boolean may(int sketch, int item)
            throws IndexOutOfBoundsException, IllegalArgumentException, UnsupportedOperationException {
        Sketch found = sketchAt(sketch);
        checkItem(item);
        if (found instanceof Filter filter) {
            return filter.mayHold(item);
        }
        throw new UnsupportedOperationException("not a filter");
    }

    public int ones(int sketch) throws IndexOutOfBoundsException, UnsupportedOperationException {
        Sketch found = sketchAt(sketch);
        if (found instanceof Filter filter) {
            return filter.bitsSet();
        }
        throw new UnsupportedOperationException("not a filter");
    }

    public int register(int sketch, int index)
            throws IndexOutOfBoundsException, UnsupportedOperationException, NoSuchElementException {
        Sketch found = sketchAt(sketch);
        if (found instanceof Distinct counter) {
            checkElement(index, counter.size);
            return counter.registerAt(index);
        }
        throw new UnsupportedOperationException("not of distinct items");
    }

    public double distinct(int sketch) throws IndexOutOfBoundsException, UnsupportedOperationException {
        Sketch found = sketchAt(sketch);
        if (found instanceof Distinct counter) {
            return counter.estimate();
        }
        throw new UnsupportedOperationException("not of distinct items");
    }

    public long count(int sketch, int item)
            throws IndexOutOfBoundsException, IllegalArgumentException, UnsupportedOperationException {
        Sketch found = sketchAt(sketch);
        checkItem(item);
        if (found instanceof Heavy heavy) {
            return heavy.countOf(item);
        }
        if (found instanceof Rows rows) {
            return rows.leastOf(item);
        }
        throw new UnsupportedOperationException("it does not count items");
    }

    public int heavyAt(int sketch, int index)
            throws IndexOutOfBoundsException, UnsupportedOperationException, NoSuchElementException {
        Sketch found = sketchAt(sketch);
        if (found instanceof Heavy heavy) {
            checkElement(index, heavy.used);
            return heavy.itemRanked(index);
        }
        throw new UnsupportedOperationException("not of heavy items");
    }

    public long error(int sketch) throws IndexOutOfBoundsException, UnsupportedOperationException {
        Sketch found = sketchAt(sketch);
        if (found instanceof Heavy heavy) {
            return heavy.lost;
        }
        if (found instanceof Quantiles quantiles) {
            return quantiles.lost;
        }
        throw new UnsupportedOperationException("it tells no error");
    }

    public long excess(int sketch, int row, int item) throws IndexOutOfBoundsException,
            IllegalArgumentException, UnsupportedOperationException, NoSuchElementException {
        Sketch found = sketchAt(sketch);
        checkItem(item);
        if (found instanceof Rows rows) {
            checkElement(row, rows.second);
            return rows.atRow(row, item) - rows.leastOf(item);
        }
        throw new UnsupportedOperationException("not of rows of counts");
    }

    // ---- quantiles, samples, windows

    public long rank(int sketch, int item)
            throws IndexOutOfBoundsException, IllegalArgumentException, UnsupportedOperationException {
        Sketch found = sketchAt(sketch);
        checkItem(item);
        if (found instanceof Quantiles quantiles) {
            return quantiles.standsBelow(item);
        }
        throw new UnsupportedOperationException("not of quantiles");
    }

    public int quantile(int sketch, int share) throws IndexOutOfBoundsException,
            IllegalArgumentException, UnsupportedOperationException, NoSuchElementException {
        Sketch found = sketchAt(sketch);
        checkRange(share, 0, 100);
        if (found instanceof Quantiles quantiles) {
            if (!quantiles.hasSeen) {
                throw new NoSuchElementException("nothing was seen");
            }
            return quantiles.itemOfShare(share);
        }
        throw new UnsupportedOperationException("not of quantiles");
    }

    public int kept(int sketch, int level)
            throws IndexOutOfBoundsException, IllegalArgumentException, UnsupportedOperationException {
        Sketch found = sketchAt(sketch);
        if (level < 0) {
            throw new IllegalArgumentException("a level below 0");
        }
        if (found instanceof Quantiles quantiles) {
            return quantiles.lengthOf(level);
        }
        throw new UnsupportedOperationException("not of quantiles");
    }

    public int keptAt(int sketch, int level, int index)
            throws IndexOutOfBoundsException, UnsupportedOperationException, NoSuchElementException {
        Sketch found = sketchAt(sketch);
        if (found instanceof Quantiles quantiles) {
            checkElement(index, quantiles.lengthOf(level));
            return quantiles.itemAt(level, index);
        }
        throw new UnsupportedOperationException("not of quantiles");
    }

    public int sampleAt(int sketch, int index)
            throws IndexOutOfBoundsException, UnsupportedOperationException, NoSuchElementException {
        Sketch found = sketchAt(sketch);
        if (found instanceof Sample sample) {
            checkElement(index, sample.filled());
            return sample.itemAt(index);
        }
        throw new UnsupportedOperationException("not a sample");
    }

    public int tick(int ticks) throws IllegalArgumentException, IllegalStateException {
        checkRange(ticks, 1, 2000);
        if (time + ticks > LAST_TIME) {
            throw new IllegalStateException("time is at its end");
        }
        time += ticks;
        for (int i = 0; i < made && i < sketches.length; i++) {
            if (sketches[i] instanceof Window window) {
                window.passTo(time);
            }
        }
        return time;
    }

    public int within(int sketch) throws IndexOutOfBoundsException, UnsupportedOperationException {
        Sketch found = sketchAt(sketch);
        if (found instanceof Window window) {
            return window.estimate();
        }
        throw new UnsupportedOperationException("not a window");
    }

    public int bucketAt(int sketch, int index)
            throws IndexOutOfBoundsException, UnsupportedOperationException, NoSuchElementException {
        Sketch found = sketchAt(sketch);
        if (found instanceof Window window) {
            checkElement(index, window.used);
            return window.sizeAt(index);
        }
        throw new UnsupportedOperationException("not a window");
    }

    // ---- likeness and cells

    public int leastAt(int sketch, int index)
            throws IndexOutOfBoundsException, UnsupportedOperationException, NoSuchElementException {
        Sketch found = sketchAt(sketch);
        if (found instanceof Least least) {
            checkElement(index, least.hasSeen ? least.size : 0);
            return least.hashAt(index);
        }
        throw new UnsupportedOperationException("not of least hashes");
    }

    public int likeness(int sketch, int other) throws IndexOutOfBoundsException, UnsupportedOperationException {
        Sketch mine = sketchAt(sketch);
        Sketch its = sketchAt(other);
        if (mine instanceof Least least && least.isOfMake(its)) {
            return least.likeIn(its);
        }
        throw new UnsupportedOperationException("not of least hashes, of one make");
    }

    public int subtract(int sketch, int other) throws IndexOutOfBoundsException, UnsupportedOperationException {
        Sketch mine = sketchAt(sketch);
        Sketch its = sketchAt(other);
        if (sketch != other && mine instanceof Cells cells && cells.isOfMake(its)) {
            cells.combine(its, -1);
            return cells.notEmpty();
        }
        throw new UnsupportedOperationException("not two of cells, of one make");
    }

    public int peeled(int sketch, boolean isThere) throws IndexOutOfBoundsException, UnsupportedOperationException {
        return peelingOf(sketch).listed(isThere);
    }

    public int peeledAt(int sketch, boolean isThere, int index)
            throws IndexOutOfBoundsException, UnsupportedOperationException, NoSuchElementException {
        Peeling done = peelingOf(sketch);
        checkElement(index, done.listed(isThere));
        return done.listedAt(isThere, index);
    }

    public boolean isClean(int sketch) throws IndexOutOfBoundsException, UnsupportedOperationException {
        return peelingOf(sketch).cells.notEmpty() == 0;
    }

    // ---- failures and figures

    public int filterFailures(int bits, int hashes, int items, int seeds) throws IllegalArgumentException {
        checkRange(bits, 8, MOST_BITS);
        checkRange(hashes, 1, 8);
        checkRange(items, 0, 40);
        checkRange(seeds, 1, 500);
        return failuresOfFilter(bits, hashes, items, seeds, seeds);
    }

    public int cellFailures(int cells, int items, int seeds) throws IllegalArgumentException {
        checkRange(cells, 3, MOST_CELLS);
        if (cells % 3 != 0) {
            throw new IllegalArgumentException("not a multiple of 3");
        }
        checkRange(items, 0, 40);
        checkRange(seeds, 1, 100);
        int failures = 0;
        for (int seed = 0; seed < seeds; seed++) {
            peeling.takeFirstItems(cells, items, seed);
            peeling.peelAll();
            if (!peeling.listsFirst(items)) {
                failures++;
            }
        }
        return failures;
    }

    public int leastBits(int items, int seeds, int most) throws IllegalArgumentException, NoSuchElementException {
        checkRange(items, 0, 40);
        checkRange(seeds, 1, 100);
        if (most < 0) {
            throw new IllegalArgumentException("most is below 0");
        }
        for (int bits = 8; bits <= MOST_BITS; bits++) {
            if (failuresOfFilter(bits, 1, items, seeds, most) <= most) {
                return bits;
            }
        }
        throw new NoSuchElementException("no such filter up to 256 bits");
    }

    public float seenShare() throws ArithmeticException {
        if (made == 0) {
            throw new ArithmeticException("there are no sketches");
        }
        int those = 0;
        for (int i = 0; i < made && i < sketches.length; i++) {
            Sketch each = sketches[i];
            if (each != null && each.hasSeen) {
                those++;
            }
        }
        return (float) those / (float) made;
    }

    public long checksum() {
        long sum = 7;
        for (int i = 0; i < made && i < sketches.length; i++) {
            Sketch each = sketches[i];
            if (each != null) {
                sum = 31 * sum + each.weightSeen;
                sum = 31 * sum + each.figure();
            }
        }
        return sum;
    }

    public boolean isSound() {
        for (int i = 0; i < made && i < sketches.length; i++) {
            Sketch each = sketches[i];
            if (each != null && !each.isRight()) {
                return false;
            }
        }
        return true;
    }

    // ---- what the calls above share

    private static int hashOf(int item, int seed) {
        int z = item * 0x9E3779B1 + seed * 0x85EBCA6B;
        z = z ^ (z >>> 15);
        z = z * 0xC2B2AE35;
        return z ^ (z >>> 13);
    }

    private static int placeOf(int item, int seed, int places) {
        if (places < 1) {
            return 0;
        }
        return (hashOf(item, seed) >>> 1) % places;
    }

    private static boolean isIn(int number, int least, int greatest) {
        return number >= least && number <= greatest;
    }

    private static boolean areLike(int[] some, int[] others) {
        for (int i = 0; i < some.length && i < others.length; i++) {
            if (some[i] != others[i]) {
                return false;
            }
        }
        return some.length == others.length;
    }

    private static boolean areLike(long[] some, long[] others) {
        for (int i = 0; i < some.length && i < others.length; i++) {
            if (some[i] != others[i]) {
                return false;
            }
        }
        return some.length == others.length;
    }

    private static boolean isMake(char kind, int size, int second) {
        if (kind == 'f') {
            return isIn(size, 8, MOST_BITS) && isIn(second, 1, 8);
        }
        if (kind == 'c') {
            return isIn(size, 2, MOST_PLACES) && isIn(second, 1, MOST_ROWS);
        }
        if (kind == 'w') {
            return isIn(size, 1, 1000) && isIn(second, 1, 4);
        }
        return second == 0 && isMakeOfSize(kind, size);
    }

    private static boolean isMakeOfSize(char kind, int size) {
        if (kind == 'd') {
            return isIn(size, 4, MOST_REGISTERS) && Integer.bitCount(size) == 1;
        }
        if (kind == 'h') {
            return isIn(size, 1, MOST_COUNTERS);
        }
        if (kind == 'q') {
            return isIn(size, 2, 16) && size % 2 == 0;
        }
        if (kind == 's') {
            return isIn(size, 1, MOST_SAMPLE);
        }
        if (kind == 'm') {
            return isIn(size, 1, MOST_LEAST);
        }
        return kind == 'i' && isIn(size, 3, MOST_CELLS) && size % 3 == 0;
    }

    private Sketch newSketch(char kind, int size, int second, int seed) {
        if (kind == 'f') {
            return new Filter(size, second, seed);
        }
        if (kind == 'd') {
            return new Distinct(size, seed);
        }
        if (kind == 'h') {
            return new Heavy(size, seed);
        }
        if (kind == 'c') {
            return new Rows(size, second, seed);
        }
        if (kind == 'q') {
            return new Quantiles(size, seed);
        }
        if (kind == 's') {
            return new Sample(size, seed);
        }
        if (kind == 'w') {
            return new Window(size, second, seed, time);
        }
        if (kind == 'm') {
            return new Least(size, seed);
        }
        return new Cells(size, seed);
    }

    private Sketch sketchAt(int number) {
        if (number < 0 || number >= made || number >= sketches.length) {
            throw new IndexOutOfBoundsException("no such sketch");
        }
        Sketch found = sketches[number];
        if (found == null) {
            throw new IndexOutOfBoundsException("no such sketch");
        }
        return found;
    }

    private static void checkRange(int number, int least, int greatest) {
        if (!isIn(number, least, greatest)) {
            throw new IllegalArgumentException("a number is out of range");
        }
    }

    private static void checkItem(int item) {
        checkRange(item, 0, ITEMS - 1);
    }

    private static void checkElement(int index, int length) {
        if (index < 0 || index >= length) {
            throw new NoSuchElementException("there is none");
        }
    }

    private void checkRoomToType(int many) {
        if (typed + many > MOST_TYPED) {
            throw new IllegalStateException("no more than forty are typed");
        }
    }

    private void typeOne(int item) {
        if (typed < typedItems.length) {
            typedItems[typed] = item;
            typed++;
        }
    }

    private Peeling peelingOf(int number) {
        Sketch found = sketchAt(number);
        if (found instanceof Cells cells) {
            peeling.takeCopyOf(cells);
            peeling.peelAll();
            return peeling;
        }
        throw new UnsupportedOperationException("not of cells");
    }

    /** Stops at one more than enough, as no caller asks further. */
    private int failuresOfFilter(int bits, int hashes, int items, int seeds, int enough) {
        int failures = 0;
        for (int seed = 0; seed < seeds && failures <= enough; seed++) {
            spareFilter.becomeEmpty(bits, hashes, seed);
            for (int item = 0; item < items; item++) {
                spareFilter.put(item, 1);
            }
            if (spareFilter.mayHold(items)) {
                failures++;
            }
        }
        return failures;
    }

    /** What all kinds have: their make, and what they saw. */
    private abstract static class Sketch {
        final char letter;
        int size;
        int second;
        int seed;
        long weightSeen = 0;
        // The weight may wrap around to 0 after many merges, so it does not tell this.
        boolean hasSeen = false;

        Sketch(char letter, int size, int second, int seed) {
            this.letter = letter;
            this.size = size;
            this.second = second;
            this.seed = seed;
        }

        abstract void put(int item, int weight);

        /** The other one is of the same make. */
        abstract void takeIn(Sketch other);

        /** The other one is of the same make. */
        abstract boolean holdsWhat(Sketch other);

        abstract long figure();

        boolean isRight() {
            return true;
        }

        final void see(int item, int weight) {
            put(item, weight);
            weightSeen += letter == 'h' || letter == 'c' ? weight : 1;
            hasSeen = true;
        }

        final boolean isOfMake(Sketch other) {
            return letter == other.letter && size == other.size && second == other.second && seed == other.seed;
        }
    }

    /** The kind 'f'. */
    private static final class Filter extends Sketch {
        private final long[] words = new long[MOST_BITS / 64];

        Filter(int bits, int hashes, int seed) {
            super('f', bits, hashes, seed);
        }

        /** A spare filter is used again for each seed that is tried. */
        void becomeEmpty(int bits, int hashes, int newSeed) {
            size = bits;
            second = hashes;
            seed = newSeed;
            Arrays.fill(words, 0L);
        }

        void put(int item, int weight) {
            for (int i = 0; i < second; i++) {
                int place = placeOf(item, seed + i, size);
                int word = place >>> 6;
                if (word < words.length) {
                    words[word] |= 1L << (place & 63);
                }
            }
        }

        boolean mayHold(int item) {
            for (int i = 0; i < second; i++) {
                int place = placeOf(item, seed + i, size);
                int word = place >>> 6;
                if (word >= words.length || (words[word] >>> (place & 63) & 1L) == 0) {
                    return false;
                }
            }
            return true;
        }

        int bitsSet() {
            int set = 0;
            for (int i = 0; i < words.length; i++) {
                set += Long.bitCount(words[i]);
            }
            return set;
        }

        void takeIn(Sketch other) {
            if (other instanceof Filter its) {
                for (int i = 0; i < words.length && i < its.words.length; i++) {
                    words[i] |= its.words[i];
                }
            }
        }

        boolean holdsWhat(Sketch other) {
            return other instanceof Filter its && areLike(words, its.words);
        }

        long figure() {
            return bitsSet();
        }
    }

    /** The kind 'd'. */
    private static final class Distinct extends Sketch {
        private final int[] registers = new int[MOST_REGISTERS];

        Distinct(int size, int seed) {
            super('d', size, 0, seed);
        }

        void put(int item, int weight) {
            int hash = hashOf(item, seed);
            int index = hash & (size - 1);
            int value = Math.min(MOST_REGISTER, 1 + Integer.numberOfLeadingZeros(hash));
            if (index >= 0 && index < registers.length) {
                registers[index] = Math.max(registers[index], value);
            }
        }

        int registerAt(int index) {
            return index >= 0 && index < registers.length ? registers[index] : 0;
        }

        double estimate() {
            double sum = 0.0;
            for (int i = 0; i < size; i++) {
                sum += 1.0 / (double) (1L << registerAt(i));
            }
            double registersAsDouble = (double) size;
            return sum > 0.0 ? 0.7 * registersAsDouble * registersAsDouble / sum : 0.0;
        }

        void takeIn(Sketch other) {
            if (other instanceof Distinct its) {
                for (int i = 0; i < registers.length && i < its.registers.length; i++) {
                    registers[i] = Math.max(registers[i], its.registers[i]);
                }
            }
        }

        boolean holdsWhat(Sketch other) {
            return other instanceof Distinct its && areLike(registers, its.registers);
        }

        long figure() {
            long sum = 0;
            for (int i = 0; i < registers.length; i++) {
                sum += registers[i];
            }
            return sum;
        }

        boolean isRight() {
            for (int i = 0; i < registers.length; i++) {
                if (registers[i] > MOST_REGISTER) {
                    return false;
                }
            }
            return true;
        }
    }

    /** The kind 'h'; the counters in use come first, in no order. */
    private static final class Heavy extends Sketch {
        // While two are merged, the counters of both stand here.
        private final int[] items = new int[2 * MOST_COUNTERS];
        private final long[] counts = new long[2 * MOST_COUNTERS];
        int used = 0;
        long lost = 0;

        Heavy(int size, int seed) {
            super('h', size, 0, seed);
        }

        void put(int item, int weight) {
            int index = indexOf(item);
            if (index >= 0) {
                counts[index] += weight;
            } else if (used < size) {
                append(item, weight);
            } else {
                long least = leastWith(weight);
                takeAway(least);
                free(false);
                if (weight != least) {
                    append(item, weight - least);
                }
            }
        }

        private int indexOf(int item) {
            for (int i = 0; i < used && i < items.length; i++) {
                if (items[i] == item) {
                    return i;
                }
            }
            return -1;
        }

        private void append(int item, long count) {
            if (used < items.length && used < counts.length) {
                items[used] = item;
                counts[used] = count;
                used++;
            }
        }

        private long leastWith(long weight) {
            long least = weight;
            for (int i = 0; i < used && i < counts.length; i++) {
                least = Math.min(least, counts[i]);
            }
            return least;
        }

        private void takeAway(long taken) {
            for (int i = 0; i < used && i < counts.length; i++) {
                counts[i] -= taken;
            }
            lost += taken;
        }

        /** Frees counters at 0, or those below it, too. */
        private void free(boolean isBelowToo) {
            int left = 0;
            for (int i = 0; i < used && i < counts.length && i < items.length; i++) {
                if (counts[i] > 0 || counts[i] < 0 && !isBelowToo) {
                    items[left] = items[i];
                    counts[left] = counts[i];
                    left++;
                }
            }
            used = left;
        }

        long countOf(int item) {
            int index = indexOf(item);
            return index >= 0 ? counts[index] : 0;
        }

        int itemRanked(int rank) {
            int index = indexRanked(rank);
            return index >= 0 ? items[index] : 0;
        }

        private int indexRanked(int rank) {
            for (int i = 0; i < used && i < items.length; i++) {
                if (aheadOf(i) == rank) {
                    return i;
                }
            }
            return -1;
        }

        private int aheadOf(int index) {
            int ahead = 0;
            for (int i = 0; i < used && i < items.length && i < counts.length; i++) {
                boolean isLike = counts[i] == counts[index];
                if (counts[i] > counts[index] || isLike && items[i] < items[index]) {
                    ahead++;
                }
            }
            return ahead;
        }

        void takeIn(Sketch other) {
            if (other instanceof Heavy its) {
                for (int i = 0; i < its.used && i < its.items.length; i++) {
                    addCount(its.items[i], its.counts[i]);
                }
                lost += its.lost;
                // Each time frees a counter at least.
                for (int i = 0; i < MOST_COUNTERS && used > size; i++) {
                    int index = indexRanked(size);
                    takeAway(index >= 0 ? counts[index] : 0);
                    free(true);
                }
            }
        }

        private void addCount(int item, long count) {
            int index = indexOf(item);
            if (index >= 0) {
                counts[index] += count;
            } else {
                append(item, count);
            }
        }

        boolean holdsWhat(Sketch other) {
            if (other instanceof Heavy its) {
                if (used != its.used || lost != its.lost) {
                    return false;
                }
                for (int i = 0; i < used && i < items.length; i++) {
                    int index = its.indexOf(items[i]);
                    if (index < 0 || its.counts[index] != counts[i]) {
                        return false;
                    }
                }
                return true;
            }
            return false;
        }

        long figure() {
            long sum = 0;
            for (int i = 0; i < used && i < counts.length; i++) {
                sum += counts[i];
            }
            return sum;
        }

        boolean isRight() {
            return figure() + lost <= weightSeen;
        }
    }

    /** The kind 'c'; its rows stand one behind the other. */
    private static final class Rows extends Sketch {
        private final long[] counts = new long[MOST_ROWS * MOST_PLACES];

        Rows(int size, int rows, int seed) {
            super('c', size, rows, seed);
        }

        private int indexIn(int row, int item) {
            return row * MOST_PLACES + placeOf(item, seed + row, size);
        }

        void put(int item, int weight) {
            for (int row = 0; row < second; row++) {
                int index = indexIn(row, item);
                if (index >= 0 && index < counts.length) {
                    counts[index] += weight;
                }
            }
        }

        long atRow(int row, int item) {
            int index = indexIn(row, item);
            return index >= 0 && index < counts.length ? counts[index] : 0;
        }

        long leastOf(int item) {
            long least = atRow(0, item);
            for (int row = 1; row < second; row++) {
                least = Math.min(least, atRow(row, item));
            }
            return least;
        }

        void takeIn(Sketch other) {
            if (other instanceof Rows its) {
                for (int i = 0; i < counts.length && i < its.counts.length; i++) {
                    counts[i] += its.counts[i];
                }
            }
        }

        boolean holdsWhat(Sketch other) {
            return other instanceof Rows its && areLike(counts, its.counts);
        }

        private long sumOf(int row) {
            long sum = 0;
            int first = row * MOST_PLACES;
            for (int i = first; i < first + size && i < counts.length; i++) {
                sum += counts[i];
            }
            return sum;
        }

        long figure() {
            return sumOf(0);
        }

        boolean isRight() {
            for (int row = 0; row < second; row++) {
                if (sumOf(row) != weightSeen) {
                    return false;
                }
            }
            return true;
        }
    }

    /** The kind 'q'; each level has its own stretch of one array, and is always sorted. */
    private static final class Quantiles extends Sketch {
        private int[] items = new int[FIRST_LEVELS * LEVEL_ROOM];
        private int[] lengths = new int[FIRST_LEVELS];
        private int[] turns = new int[FIRST_LEVELS];
        private int[] heads = new int[FIRST_LEVELS];
        private int levels = 0;
        long lost = 0;

        Quantiles(int size, int seed) {
            super('q', size, 0, seed);
        }

        /** As a long: a shift by 64 would begin again at 1. */
        private static long standsFor(int level) {
            return level >= 0 && level < 64 ? 1L << level : 0L;
        }

        private boolean hasRoomFor(int level) {
            if (level < 0 || level >= MOST_LEVELS) {
                return false;
            }
            if (level >= lengths.length) {
                int more = Math.min(MOST_LEVELS, Math.max(level + 1, 2 * lengths.length));
                items = Arrays.copyOf(items, more * LEVEL_ROOM);
                lengths = Arrays.copyOf(lengths, more);
                turns = Arrays.copyOf(turns, more);
                heads = Arrays.copyOf(heads, more);
            }
            return true;
        }

        private void insert(int level, int item) {
            if (!hasRoomFor(level) || lengths[level] >= LEVEL_ROOM) {
                return;
            }
            int first = level * LEVEL_ROOM;
            int at = first + lengths[level];
            while (at > first && items[at - 1] > item) {
                items[at] = items[at - 1];
                at--;
            }
            items[at] = item;
            lengths[level]++;
            levels = Math.max(levels, level + 1);
        }

        void put(int item, int weight) {
            insert(0, item);
            compactAll();
        }

        /** One way up is enough: compacting a level leaves all below it as they are. */
        private void compactAll() {
            for (int level = 0; level < levels && level < MOST_LEVELS; level++) {
                if (lengthOf(level) > size) {
                    compact(level);
                }
            }
        }

        private void compact(int level) {
            if (!hasRoomFor(level) || !hasRoomFor(level + 1)) {
                return;
            }
            int first = level * LEVEL_ROOM;
            int length = lengths[level];
            int paired = length - length % 2;
            for (int i = turns[level]; i < paired; i += 2) {
                insert(level + 1, items[first + i]);
            }
            if (paired < length) {
                items[first] = items[first + paired];
            }
            lengths[level] = length - paired;
            turns[level] = 1 - turns[level];
            lost += standsFor(level);
        }

        int lengthOf(int level) {
            return level >= 0 && level < levels && level < lengths.length ? lengths[level] : 0;
        }

        private int turnOf(int level) {
            return level >= 0 && level < turns.length ? turns[level] : 0;
        }

        int itemAt(int level, int index) {
            if (index < 0 || index >= lengthOf(level)) {
                return -1;
            }
            int at = level * LEVEL_ROOM + index;
            return at < items.length ? items[at] : -1;
        }

        long standsBelow(int item) {
            long sum = 0;
            for (int level = 0; level < levels; level++) {
                int length = lengthOf(level);
                for (int i = 0; i < length && itemAt(level, i) < item; i++) {
                    sum += standsFor(level);
                }
            }
            return sum;
        }

        /** The share times the weight, by 100, rounded up, without a product beyond a long. */
        private long dueFor(int share) {
            long hundreds = Math.floorDiv(weightSeen, 100L);
            long rest = Math.floorMod(weightSeen, 100L);
            return hundreds * share + (rest * share + 99) / 100;
        }

        int itemOfShare(int share) {
            long due = dueFor(share);
            Arrays.fill(heads, 0);
            int item = -1;
            long stands = 0;
            for (int i = 0; i < MOST_LEVELS * LEVEL_ROOM; i++) {
                int level = levelOfLeastHead();
                int next = level >= 0 ? itemAt(level, heads[level]) : -1;
                if (next < 0 || item >= 0 && next > item && stands >= due) {
                    break;
                }
                item = next;
                stands += standsFor(level);
                heads[level]++;
            }
            return item;
        }

        private int levelOfLeastHead() {
            int best = -1;
            int least = ITEMS;
            for (int level = 0; level < levels && level < heads.length; level++) {
                int head = itemAt(level, heads[level]);
                if (head >= 0 && head < least) {
                    best = level;
                    least = head;
                }
            }
            return best;
        }

        void takeIn(Sketch other) {
            if (other instanceof Quantiles its) {
                for (int level = 0; level < its.levels; level++) {
                    int length = its.lengthOf(level);
                    for (int i = 0; i < length; i++) {
                        insert(level, its.itemAt(level, i));
                    }
                }
                lost += its.lost;
                compactAll();
            }
        }

        boolean holdsWhat(Sketch other) {
            if (other instanceof Quantiles its) {
                if (lost != its.lost) {
                    return false;
                }
                int all = Math.max(levels, its.levels);
                for (int level = 0; level < all; level++) {
                    if (!hasLevelOf(its, level)) {
                        return false;
                    }
                }
                return true;
            }
            return false;
        }

        private boolean hasLevelOf(Quantiles its, int level) {
            int length = lengthOf(level);
            if (length != its.lengthOf(level) || turnOf(level) != its.turnOf(level)) {
                return false;
            }
            for (int i = 0; i < length; i++) {
                if (itemAt(level, i) != its.itemAt(level, i)) {
                    return false;
                }
            }
            return true;
        }

        long figure() {
            long sum = 0;
            for (int level = 0; level < levels; level++) {
                sum += lengthOf(level);
            }
            return sum;
        }

        boolean isRight() {
            return standsBelow(ITEMS) == weightSeen;
        }
    }

    /** The kind 's'. */
    private static final class Sample extends Sketch {
        private final int[] items = new int[MOST_SAMPLE];
        private int number = 0;
        private int z;

        Sample(int size, int seed) {
            super('s', size, 0, seed);
            z = seed;
        }

        void put(int item, int weight) {
            number++;
            int place = number - 1;
            if (number > size) {
                z = z * 1103515245 + 12345;
                place = (z >>> 16) % number;
            }
            if (place >= 0 && place < size && place < items.length) {
                items[place] = item;
            }
        }

        int filled() {
            return Math.min(number, size);
        }

        int itemAt(int index) {
            return index >= 0 && index < items.length ? items[index] : 0;
        }

        /** Samples are not merged. */
        void takeIn(Sketch other) {
        }

        boolean holdsWhat(Sketch other) {
            if (other instanceof Sample its) {
                if (filled() != its.filled()) {
                    return false;
                }
                for (int i = 0; i < filled(); i++) {
                    if (itemAt(i) != its.itemAt(i)) {
                        return false;
                    }
                }
                return true;
            }
            return false;
        }

        long figure() {
            long sum = 0;
            for (int i = 0; i < filled(); i++) {
                sum += itemAt(i);
            }
            return sum;
        }
    }

    /** The kind 'w'; its buckets stand from the oldest one on. */
    private static final class Window extends Sketch {
        private final int[] sizes = new int[MOST_BUCKETS];
        private final int[] times = new int[MOST_BUCKETS];
        int used = 0;
        private int now;

        Window(int ticks, int ofOneSize, int seed, int now) {
            super('w', ticks, ofOneSize, seed);
            this.now = now;
        }

        void passTo(int time) {
            now = time;
            int gone = 0;
            while (gone < used && gone < times.length && now - times[gone] >= size) {
                gone++;
            }
            for (int i = gone; i < used && i < times.length; i++) {
                sizes[i - gone] = sizes[i];
                times[i - gone] = times[i];
            }
            used -= gone;
        }

        void put(int item, int weight) {
            if (used >= sizes.length || used >= times.length) {
                return;
            }
            sizes[used] = 1;
            times[used] = now;
            used++;
            for (int of = 1; of <= LARGEST_BUCKET && howManyOf(of) > second; of *= 2) {
                joinOldest(of);
            }
        }

        private int howManyOf(int bucketSize) {
            int many = 0;
            for (int i = 0; i < used && i < sizes.length; i++) {
                if (sizes[i] == bucketSize) {
                    many++;
                }
            }
            return many;
        }

        /** Buckets of a size stand side by side, as sizes do not grow with time. */
        private void joinOldest(int bucketSize) {
            int older = 0;
            while (older < used && older < sizes.length && sizes[older] != bucketSize) {
                older++;
            }
            if (older + 1 >= used || older + 1 >= sizes.length) {
                return;
            }
            sizes[older] = 2 * bucketSize;
            times[older] = times[older + 1];
            for (int i = older + 2; i < used && i < sizes.length; i++) {
                sizes[i - 1] = sizes[i];
                times[i - 1] = times[i];
            }
            used--;
        }

        int sizeAt(int index) {
            return index >= 0 && index < used && index < sizes.length ? sizes[index] : 0;
        }

        int estimate() {
            int sum = 0;
            for (int i = 0; i < used; i++) {
                sum += sizeAt(i);
            }
            return sum - sizeAt(0) / 2;
        }

        /** Windows are not merged. */
        void takeIn(Sketch other) {
        }

        boolean holdsWhat(Sketch other) {
            if (other instanceof Window its) {
                if (used != its.used) {
                    return false;
                }
                for (int i = 0; i < used && i < sizes.length; i++) {
                    if (sizes[i] != its.sizes[i] || times[i] != its.times[i]) {
                        return false;
                    }
                }
                return true;
            }
            return false;
        }

        long figure() {
            return estimate();
        }

        boolean isRight() {
            for (int i = 0; i < used && i < sizes.length; i++) {
                if (howManyOf(sizes[i]) > second) {
                    return false;
                }
                if (i > 0 && (times[i - 1] > times[i] || sizes[i - 1] < sizes[i])) {
                    return false;
                }
            }
            return true;
        }
    }

    /** The kind 'm'; its hashes mean something once an item was seen. */
    private static final class Least extends Sketch {
        private final int[] hashes = new int[MOST_LEAST];

        Least(int size, int seed) {
            super('m', size, 0, seed);
        }

        void put(int item, int weight) {
            for (int i = 0; i < size && i < hashes.length; i++) {
                takeHash(i, hashOf(item, seed + i));
            }
        }

        private void takeHash(int index, int hash) {
            if (!hasSeen || hash < hashes[index]) {
                hashes[index] = hash;
            }
        }

        int hashAt(int index) {
            return index >= 0 && index < hashes.length ? hashes[index] : 0;
        }

        int likeIn(Sketch other) {
            int like = 0;
            if (other instanceof Least its) {
                for (int i = 0; i < size; i++) {
                    if (hasSeen == its.hasSeen && hashAt(i) == its.hashAt(i)) {
                        like++;
                    }
                }
            }
            return like;
        }

        void takeIn(Sketch other) {
            if (other instanceof Least its && its.hasSeen) {
                for (int i = 0; i < size && i < hashes.length; i++) {
                    takeHash(i, its.hashAt(i));
                }
            }
        }

        boolean holdsWhat(Sketch other) {
            return likeIn(other) == size;
        }

        long figure() {
            long sum = 0;
            for (int i = 0; i < size; i++) {
                sum += hashAt(i);
            }
            return sum;
        }
    }

    /** The kind 'i'. */
    private static final class Cells extends Sketch {
        private final long[] counts = new long[MOST_CELLS];
        private final int[] sums = new int[MOST_CELLS];
        private final int[] hashSums = new int[MOST_CELLS];

        Cells(int size, int seed) {
            super('i', size, 0, seed);
        }

        /** A spare one is used again for each peeling. */
        void becomeEmpty(int cells, int newSeed) {
            size = cells;
            seed = newSeed;
            Arrays.fill(counts, 0L);
            Arrays.fill(sums, 0);
            Arrays.fill(hashSums, 0);
        }

        void put(int item, int weight) {
            change(item, 1);
        }

        void change(int item, long by) {
            int hash = hashOf(item, seed + 3);
            for (int part = 0; part < 3; part++) {
                int cell = cellOf(item, part);
                if (isCell(cell)) {
                    counts[cell] += by;
                    sums[cell] ^= item;
                    hashSums[cell] ^= hash;
                }
            }
        }

        private boolean isCell(int cell) {
            return cell >= 0 && cell < size && cell < MOST_CELLS;
        }

        int cellOf(int item, int part) {
            int third = size / 3;
            return part * third + placeOf(item, seed + part, third);
        }

        /** Whether a cell can be peeled. */
        boolean isPure(int cell) {
            if (!isCell(cell) || counts[cell] != 1 && counts[cell] != -1) {
                return false;
            }
            int item = sums[cell];
            if (hashSums[cell] != hashOf(item, seed + 3)) {
                return false;
            }
            return cellOf(item, 0) == cell || cellOf(item, 1) == cell || cellOf(item, 2) == cell;
        }

        long countAt(int cell) {
            return isCell(cell) ? counts[cell] : 0;
        }

        int sumAt(int cell) {
            return isCell(cell) ? sums[cell] : 0;
        }

        int notEmpty() {
            int many = 0;
            for (int i = 0; i < size && i < MOST_CELLS; i++) {
                if (counts[i] != 0 || sums[i] != 0 || hashSums[i] != 0) {
                    many++;
                }
            }
            return many;
        }

        void combine(Sketch other, int sign) {
            if (other instanceof Cells its) {
                for (int i = 0; i < MOST_CELLS; i++) {
                    counts[i] += sign * its.counts[i];
                    sums[i] ^= its.sums[i];
                    hashSums[i] ^= its.hashSums[i];
                }
            }
        }

        void takeIn(Sketch other) {
            combine(other, 1);
        }

        boolean holdsWhat(Sketch other) {
            if (other instanceof Cells its) {
                return areLike(counts, its.counts) && areLike(sums, its.sums) && areLike(hashSums, its.hashSums);
            }
            return false;
        }

        long figure() {
            long sum = 0;
            for (int i = 0; i < MOST_CELLS; i++) {
                sum += counts[i];
            }
            return sum;
        }
    }

    /** One peeling at a time, on cells of its own, so that the sketch stays. */
    private static final class Peeling {
        final Cells cells = new Cells(MOST_CELLS, 0);
        private final int[] items = new int[MOST_PEELED];
        private final boolean[] areThere = new boolean[MOST_PEELED];
        private int used = 0;

        void takeCopyOf(Cells its) {
            cells.becomeEmpty(its.size, its.seed);
            cells.combine(its, 1);
        }

        void takeFirstItems(int many, int itemsAdded, int seed) {
            cells.becomeEmpty(many, seed);
            for (int item = 0; item < itemsAdded; item++) {
                cells.change(item, 1);
            }
        }

        void peelAll() {
            used = 0;
            int from = 0;
            for (int i = 0; i < MOST_PEELED; i++) {
                int cell = firstPureFrom(from);
                if (cell < 0) {
                    break;
                }
                int item = cells.sumAt(cell);
                long count = cells.countAt(cell);
                cells.change(item, -count);
                list(item, count > 0);
                // No cell ahead of the item's own ones could be peeled, nor has it changed.
                from = cells.cellOf(item, 0);
            }
        }

        private int firstPureFrom(int from) {
            for (int cell = from; cell < cells.size; cell++) {
                if (cells.isPure(cell)) {
                    return cell;
                }
            }
            return -1;
        }

        private void list(int item, boolean isThere) {
            if (used < items.length && used < areThere.length) {
                items[used] = item;
                areThere[used] = isThere;
                used++;
            }
        }

        int listed(boolean isThere) {
            int many = 0;
            for (int i = 0; i < used && i < areThere.length; i++) {
                if (areThere[i] == isThere) {
                    many++;
                }
            }
            return many;
        }

        int listedAt(boolean isThere, int index) {
            int ahead = 0;
            for (int i = 0; i < used && i < items.length; i++) {
                if (areThere[i] == isThere) {
                    if (ahead == index) {
                        return items[i];
                    }
                    ahead++;
                }
            }
            return -1;
        }

        /** Whether the items 0 to one less than told, 40 at most, are listed as there. */
        boolean listsFirst(int many) {
            long found = 0;
            for (int i = 0; i < used && i < items.length; i++) {
                if (areThere[i] && items[i] < many) {
                    found |= 1L << items[i];
                }
            }
            return Long.bitCount(found) == many;
        }
    }
}
