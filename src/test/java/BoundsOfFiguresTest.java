import java.math.BigInteger;

/** Promises 34 to 39 at their bounds: both ends of each range, nothing there, all that may be there, wrap-arounds. */
public final class BoundsOfFiguresTest {
    private static final String KINDS = "fdhcqswmi";

    public static void main(String[] arguments) {
        filterFailureRanges();
        filterFailuresBySeed();
        filterFailuresAtTheEnds();
        cellFailureRanges();
        cellFailuresBySeed();
        cellFailuresAtTheEnds();
        leastBitsRanges();
        leastBitsAtTheEnds();
        seenShare();
        seenShareOfTen();
        checksumOfNothing();
        checksumOfTen();
        checksumOfKinds();
        checksumBelowZero();
        isSound();
        isSoundWhenAllIsFull();
        isNotSound();
        Check.end("BoundsOfFiguresTest");
    }

    private static void filterFailureRanges() {
        Check.about("promise 34");
        Sketchery room = new Sketchery();
        Check.range("bits", 8, 256, bits -> room.filterFailures(bits, 1, 1, 1));
        Check.range("hashes", 1, 8, hashes -> room.filterFailures(8, hashes, 1, 1));
        Check.range("items", 0, 40, items -> room.filterFailures(8, 1, items, 1));
        Check.range("seeds", 1, 500, seeds -> room.filterFailures(8, 1, 1, seeds));
        Check.refuses("all", Check.ARGUMENT, () -> room.filterFailures(0, 0, -1, 0));
        Check.same("no sketch comes of it", 7L, room.checksum());
        Check.same("nor is anything typed", 0, room.wipe());
    }

    private static boolean filterFails(int bits, int hashes, int items, int seed) {
        Sketchery room = new Sketchery();
        room.sketch('f', bits, hashes, seed);
        if (items > 0) {
            room.typeRow(0, 1, items);
        }
        room.addTyped(0, 1);
        return room.may(0, items);
    }

    private static void filterFailuresBySeed() {
        Check.about("promise 34");
        int[][] all = {{8, 1, 3}, {8, 8, 40}, {256, 1, 40}, {64, 2, 20}, {16, 2, 5}};
        for (int[] each : all) {
            Sketchery room = new Sketchery();
            int failures = 0;
            for (int seeds = 1; seeds <= 500; seeds++) {
                failures += filterFails(each[0], each[1], each[2], seeds - 1) ? 1 : 0;
                Check.same("seeds 0 to " + (seeds - 1), failures,
                    room.filterFailures(each[0], each[1], each[2], seeds));
            }
            Check.same("some fail", true, failures > 0);
        }
    }

    private static void filterFailuresAtTheEnds() {
        Check.about("promise 34");
        Sketchery room = new Sketchery();
        Check.same("no items, in 8 bits", 0, room.filterFailures(8, 1, 0, 500));
        Check.same("no items, in 256 bits", 0, room.filterFailures(256, 8, 0, 500));
        for (int items : new int[] {1, 39, 40}) {
            int first = filterFails(8, 1, items, 0) ? 1 : 0;
            Check.same("the seed 0 alone, " + items, first, room.filterFailures(8, 1, items, 1));
        }
        Check.same("all bits are set by 40 items", 500, room.filterFailures(8, 8, 40, 500));
    }

    private static void cellFailureRanges() {
        Check.about("promise 35");
        Sketchery room = new Sketchery();
        Check.range("cells", 3, 60, cells -> room.cellFailures(cells, 1, 1));
        Check.range("items", 0, 40, items -> room.cellFailures(3, items, 1));
        Check.range("seeds", 1, 100, seeds -> room.cellFailures(3, 1, seeds));
        for (int cells = 0; cells <= 64; cells++) {
            int each = cells;
            boolean fits = cells >= 3 && cells <= 60 && cells % 3 == 0;
            Check.same(cells + " cells", fits ? (Object) 0 : Check.ARGUMENT,
                Check.outcome(() -> room.cellFailures(each, 1, 1)));
        }
        Check.refuses("minus 3 cells", Check.ARGUMENT, () -> room.cellFailures(-3, 1, 1));
        Check.refuses("all", Check.ARGUMENT, () -> room.cellFailures(4, 41, 0));
        Check.same("no sketch comes of it", 7L, room.checksum());
        Check.same("nor is anything typed", 0, room.wipe());
    }

    private static boolean cellsFail(int cells, int items, int seed) {
        Sketchery room = new Sketchery();
        room.sketch('i', cells, 0, seed);
        if (items > 0) {
            room.typeRow(0, 1, items);
        }
        room.addTyped(0, 1);
        int there = room.peeled(0, true);
        long missing = (1L << items) - 1;
        for (int i = 0; i < there; i++) {
            int item = room.peeledAt(0, true, i);
            if (item < items) {
                missing &= ~(1L << item);
            }
        }
        return missing != 0;
    }

    private static void cellFailuresBySeed() {
        Check.about("promise 35");
        int[][] all = {{3, 2}, {60, 40}, {12, 6}, {30, 14}, {6, 3}, {57, 33}};
        for (int[] each : all) {
            Sketchery room = new Sketchery();
            int failures = 0;
            for (int seeds = 1; seeds <= 100; seeds++) {
                failures += cellsFail(each[0], each[1], seeds - 1) ? 1 : 0;
                Check.same("seeds 0 to " + (seeds - 1), failures, room.cellFailures(each[0], each[1], seeds));
            }
        }
    }

    private static void cellFailuresAtTheEnds() {
        Check.about("promise 35");
        Sketchery room = new Sketchery();
        for (int cells : new int[] {3, 60}) {
            Check.same("no items in " + cells, 0, room.cellFailures(cells, 0, 100));
            Check.same("one item in " + cells, 0, room.cellFailures(cells, 1, 100));
            Check.same("one item, one seed in " + cells, 0, room.cellFailures(cells, 1, 1));
        }
        Check.same("two items in three cells", 100, room.cellFailures(3, 2, 100));
        Check.same("forty items in three cells", 100, room.cellFailures(3, 40, 100));
        Check.same("the seed 0 alone fails", 1, room.cellFailures(3, 40, 1));
    }

    private static void leastBitsRanges() {
        Check.about("promise 36");
        Sketchery room = new Sketchery();
        Check.range("items", 0, 40, items -> room.leastBits(items, 1, 1));
        Check.range("seeds", 1, 100, seeds -> room.leastBits(1, seeds, 100));
        for (int most : new int[] {-1, -2, Integer.MIN_VALUE}) {
            Check.refuses("most " + most, Check.ARGUMENT, () -> room.leastBits(0, 1, most));
        }
        for (int most : new int[] {0, 1, 100, 101, 65536, Integer.MAX_VALUE}) {
            Check.same("most " + most, 8, room.leastBits(0, 100, most));
        }
        Check.refuses("none up to 256", Check.NONE, () -> room.leastBits(40, 100, 0));
        Check.refuses("a wrong number comes first", Check.ARGUMENT, () -> room.leastBits(40, 101, 0));
        Check.refuses("a wrong number comes first", Check.ARGUMENT, () -> room.leastBits(41, 100, 0));
        Check.refuses("a wrong number comes first", Check.ARGUMENT, () -> room.leastBits(40, 100, -1));
        Check.same("no sketch comes of it", 7L, room.checksum());
    }

    private static void leastBitsAtTheEnds() {
        Check.about("promise 36");
        Sketchery room = new Sketchery();
        for (int items : new int[] {1, 20, 40}) {
            int failures = room.filterFailures(8, 1, items, 100);
            Check.same("as many as told", 8, room.leastBits(items, 100, failures));
            Check.same("one more than fail", 8, room.leastBits(items, 100, failures + 1));
            Check.same("one less than fail", true, room.leastBits(items, 100, failures - 1) > 8);
        }
        Check.same("all 256 bits", 256, room.leastBits(28, 61, 2));
        Check.same("which fail for two", 2, room.filterFailures(256, 1, 28, 61));
        Check.same("one seed, none fails", leastForOne(40), room.leastBits(40, 1, 0));
        Check.same("one seed, one may fail", 8, room.leastBits(40, 1, 1));
    }

    private static int leastForOne(int items) {
        int bits = 8;
        while (filterFails(bits, 1, items, 0)) {
            bits++;
        }
        return bits;
    }

    private static void seenShare() {
        Check.about("promise 37");
        Check.refuses("there are none", Check.ARITHMETIC, () -> new Sketchery().seenShare());
        for (char kind : KINDS.toCharArray()) {
            Sketchery room = new Sketchery();
            int size = BoundsOfCallsTest.size(kind);
            room.sketch(kind, size, BoundsOfCallsTest.second(kind), 0);
            Check.same("'" + kind + "' has seen nothing", 0.0f, room.seenShare());
            room.addTyped(0, 1);
            Check.same("'" + kind + "' nor by adding nothing", 0.0f, room.seenShare());
            Check.add(room, 0, 1, 0);
            Check.same("'" + kind + "' has seen something", 1.0f, room.seenShare());
            room.tick(2000);
            Check.same("'" + kind + "' and that stays so", 1.0f, room.seenShare());
            room.sketch(kind, size, BoundsOfCallsTest.second(kind), 0);
            Check.same("'" + kind + "' one of two", 0.5f, room.seenShare());
            if (kind != 's' && kind != 'w') {
                room.merge(1, 0);
                Check.same("'" + kind + "' merged, both", 1.0f, room.seenShare());
            }
        }
        Sketchery cells = new Sketchery();
        cells.sketch('i', 3, 0, 0);
        cells.sketch('i', 3, 0, 0);
        Check.add(cells, 1, 1, 5);
        cells.subtract(0, 1);
        Check.same("what was taken away was not seen", 0.5f, cells.seenShare());
    }

    private static void seenShareOfTen() {
        Check.about("promise 37");
        Sketchery room = new Sketchery();
        for (int sketch = 0; sketch < 10; sketch++) {
            room.sketch('h', 1, 0, sketch);
            Check.same("none of " + (sketch + 1), 0.0f, room.seenShare());
        }
        for (int sketch = 0; sketch < 10; sketch++) {
            Check.add(room, sketch, 1000, 65535);
            Check.same((sketch + 1) + " of ten", (float) (sketch + 1) / 10.0f, room.seenShare());
        }
    }

    private static void checksumOfNothing() {
        Check.about("promise 38");
        Check.same("no sketches", 7L, new Sketchery().checksum());
        for (char kind : KINDS.toCharArray()) {
            Sketchery room = new Sketchery();
            room.sketch(kind, BoundsOfCallsTest.size(kind), BoundsOfCallsTest.second(kind), 65535);
            Check.same("'" + kind + "' with nothing", 7L * 31 * 31, room.checksum());
            Check.same("'" + kind + "' and asked again", 7L * 31 * 31, room.checksum());
        }
    }

    /** Ten sketches let the sum wrap around: 31 to the power of 20 is above a long. */
    private static void checksumOfTen() {
        Check.about("promise 38, a long");
        Sketchery room = new Sketchery();
        BigInteger sum = BigInteger.valueOf(7);
        BigInteger factor = BigInteger.valueOf(31);
        for (int sketch = 0; sketch < 10; sketch++) {
            room.sketch('c', 2 + sketch, 1, sketch);
            sum = sum.multiply(factor).multiply(factor);
            Check.same("empty ones, up to " + sketch, sum.longValue(), room.checksum());
        }
        room.typeRow(0, 1, 40);
        sum = BigInteger.valueOf(7);
        for (int sketch = 0; sketch < 10; sketch++) {
            room.addTyped(sketch, 100 * sketch + 1);
            BigInteger seen = BigInteger.valueOf(room.seen(sketch));
            sum = sum.multiply(factor).add(seen).multiply(factor).add(seen);
        }
        Check.same("full ones", sum.longValue(), room.checksum());
        Check.same("which are above a long", true, sum.bitLength() > 63);
    }

    /** The figure of each kind, told by the elements that its other calls answer. */
    private static void checksumOfKinds() {
        Check.about("promise 38");
        int[] sizes = {256, 64, 8, 64, 16, 10, 1000, 16, 60};
        for (int i = 0; i < 9; i++) {
            char kind = KINDS.charAt(i);
            for (int items : new int[] {1, 2, 7, 40}) {
                Sketchery room = new Sketchery();
                room.sketch(kind, sizes[i], BoundsOfCallsTest.second(kind), 65535);
                room.typeRow(65535, 65534, items);
                room.addTyped(0, 3);
                long due = (7L * 31 + room.seen(0)) * 31 + figure(room, kind);
                Check.same("'" + kind + "' with " + items, due, room.checksum());
            }
        }
    }

    private static long figure(Sketchery room, char kind) {
        return switch (kind) {
            case 'f' -> room.ones(0);
            case 'w' -> room.within(0);
            case 'c' -> room.seen(0);
            case 'i' -> 3 * room.seen(0);
            case 'q' -> room.kept(0, 0) + room.kept(0, 1) + room.kept(0, 2);
            default -> elements(room, kind);
        };
    }

    private static long elements(Sketchery room, char kind) {
        long sum = 0;
        for (int i = 0; i < 64; i++) {
            int index = i;
            Object element = Check.outcome(() -> switch (kind) {
                case 'd' -> (long) room.register(0, index);
                case 'h' -> room.count(0, room.heavyAt(0, index));
                case 's' -> (long) room.sampleAt(0, index);
                default -> (long) room.leastAt(0, index);
            });
            sum += element instanceof Long ? (Long) element : 0;
        }
        return sum;
    }

    private static void checksumBelowZero() {
        Check.about("promise 38");
        Sketchery room = new Sketchery();
        room.sketch('m', 16, 0, 65535);
        room.typeRow(0, 1, 40);
        room.addTyped(0, 1);
        long sum = 0;
        for (int i = 0; i < 16; i++) {
            sum += room.leastAt(0, i);
        }
        Check.same("the sum of hashes is below an int", true, sum < Integer.MIN_VALUE);
        Check.same("'m' as a long", (7L * 31 + 40) * 31 + sum, room.checksum());
        Sketchery cells = new Sketchery();
        cells.sketch('i', 3, 0, 0);
        cells.sketch('i', 3, 0, 0);
        Check.add(cells, 1, 1, 5, 6);
        cells.subtract(0, 1);
        Check.same("'i' counts below 0", ((7L * 31 * 31 - 6) * 31 + 2) * 31 + 6, cells.checksum());
        Sketchery windows = new Sketchery();
        windows.sketch('w', 1, 1, 0);
        Check.add(windows, 0, 1, 1, 2, 3);
        Check.same("'w' the count, less half of the oldest one's", (7L * 31 + 3) * 31 + 2, windows.checksum());
        windows.tick(1);
        Check.same("'w' nothing left", (7L * 31 + 3) * 31, windows.checksum());
        Sketchery rows = new Sketchery();
        rows.sketch('c', 2, 6, 0);
        Check.add(rows, 0, 10, 1, 2, 3);
        Check.same("'c' the first row alone", (7L * 31 + 30) * 31 + 30, rows.checksum());
    }

    private static void isSound() {
        Check.about("promise 39");
        Check.same("no sketches", true, new Sketchery().isSound());
        for (char kind : KINDS.toCharArray()) {
            Sketchery room = new Sketchery();
            for (int sketch = 0; sketch < 10; sketch++) {
                room.sketch(kind, BoundsOfCallsTest.size(kind), BoundsOfCallsTest.second(kind), 0);
            }
            Check.same("ten of '" + kind + "' with nothing", true, room.isSound());
            for (int i = 0; i < 45; i++) {
                room.wipe();
                room.typeRow(i * 1000, i * i, 40);
                room.addTyped(i % 10, 1 + i * 22);
                room.tick(1 + i % 3);
                Check.same("'" + kind + "' after " + i, true, room.isSound());
            }
        }
    }

    private static void isSoundWhenAllIsFull() {
        Check.about("promise 39");
        int[][] ends = {{8, 1}, {4, 0}, {1, 0}, {2, 1}, {2, 0}, {1, 0}, {1, 1}, {1, 0}, {3, 0}};
        int[][] others = {{256, 8}, {64, 0}, {8, 0}, {64, 6}, {16, 0}, {10, 0}, {1000, 4}, {16, 0}, {60, 0}};
        for (int[][] sizes : new int[][][] {ends, others}) {
            Sketchery room = new Sketchery();
            for (int kind = 0; kind < 9; kind++) {
                room.sketch(KINDS.charAt(kind), sizes[kind][0], sizes[kind][1], 0);
            }
            for (int i = 0; i < 40; i++) {
                room.wipe();
                room.typeRow(i * 40, 1, 40);
                for (int sketch = 0; sketch < 9; sketch++) {
                    room.addTyped(sketch, 1000);
                }
                Check.same("all kinds, after " + i, true, room.isSound());
            }
        }
    }

    /** What was seen wraps around below 0 ahead of the counts of 'h' and their error. */
    private static void isNotSound() {
        Check.about("promise 39, 'h', as longs");
        boolean[] haveBeenAlone = new boolean[2];
        for (int first = 0; first < 2; first++) {
            Sketchery room = new Sketchery();
            room.sketch('h', 1, 0, 0);
            room.sketch('h', 1, 0, 0);
            Check.add(room, 0, 1000, 1);
            Check.add(room, 1, 999, 2);
            for (int i = first; i < first + 65; i++) {
                room.merge(i % 2, 1 - i % 2);
                Check.same("after merge " + i, true, room.isSound());
            }
            for (int i = first + 65; i < first + 85; i++) {
                room.merge(i % 2, 1 - i % 2);
                boolean isFirstFine = isWithin(room, 0);
                boolean isSecondFine = isWithin(room, 1);
                Check.same("after merge " + i, isFirstFine && isSecondFine, room.isSound());
                haveBeenAlone[0] |= !isFirstFine && isSecondFine;
                haveBeenAlone[1] |= isFirstFine && !isSecondFine;
            }
        }
        Check.same("the first one alone is not sound", true, haveBeenAlone[0]);
        Check.same("the last one alone is not sound", true, haveBeenAlone[1]);
    }

    private static boolean isWithin(Sketchery room, int sketch) {
        return room.count(sketch, 1) + room.count(sketch, 2) + room.error(sketch) <= room.seen(sketch);
    }
}
