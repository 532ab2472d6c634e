import java.util.ArrayList;
import java.util.List;
import java.util.Set;
import java.util.TreeSet;
import java.util.function.IntPredicate;

/** Finds items whose sum in exclusive or, and the sum of their hashes, are those that are told. */
final class ItemSums {
    private static final int BITS = 49;

    private final long[] heads = new long[BITS];
    private final List<Set<Integer>> sets = new ArrayList<>();

    private ItemSums() {
        for (int i = 0; i < BITS; i++) {
            sets.add(new TreeSet<>());
        }
    }

    /** The cell of an item in a part of cells with such a third. */
    static int cell(int item, int seed, int third, int part) {
        return part * third + (PlainRoom.hash(item, seed + part) >>> 1) % third;
    }

    static boolean goesTo(int item, int seed, int third, int... cells) {
        for (int part = 0; part < cells.length; part++) {
            if (cell(item, seed, third, part) != cells[part]) {
                return false;
            }
        }
        return true;
    }

    /** An odd number of items of those that may be taken, whose sums are those of one other item. */
    static List<Integer> itemsFor(int sum, int seed, IntPredicate mayBeTaken) {
        return itemsFor(sum, PlainRoom.hash(sum, seed + 3), true, seed, item -> item != sum && mayBeTaken.test(item));
    }

    /** Items of those that may be taken, an odd number of them or an even one, for cells of the seed. */
    static List<Integer> itemsFor(int sum, int hashes, boolean isOdd, int seed, IntPredicate mayBeTaken) {
        ItemSums sums = new ItemSums();
        for (int item = 0; item < 65536; item++) {
            if (mayBeTaken.test(item)) {
                sums.learn(item, PlainRoom.hash(item, seed + 3));
            }
        }
        Set<Integer> set = new TreeSet<>();
        if (sums.reduce(vector(sum, hashes, isOdd), set) != 0) {
            throw new IllegalStateException("no such items");
        }
        return new ArrayList<>(set);
    }

    /** The sum, the sum of hashes, and a bit by which the number of items is odd. */
    private static long vector(int sum, int hashes, boolean isOdd) {
        return sum | (long) hashes << 16 & 0xFFFFFFFF0000L | (isOdd ? 1L << 48 : 0);
    }

    private void learn(int item, int hash) {
        Set<Integer> set = new TreeSet<>(Set.of(item));
        long rest = reduce(vector(item, hash, true), set);
        if (rest != 0) {
            int top = 63 - Long.numberOfLeadingZeros(rest);
            heads[top] = rest;
            sets.set(top, set);
        }
    }

    private long reduce(long vector, Set<Integer> set) {
        long rest = vector;
        for (int top = BITS - 1; top >= 0; top--) {
            if ((rest >>> top & 1) == 1 && heads[top] != 0) {
                rest ^= heads[top];
                for (int item : sets.get(top)) {
                    if (!set.remove(item)) {
                        set.add(item);
                    }
                }
            }
        }
        return rest;
    }
}
