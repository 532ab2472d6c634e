import java.util.List;
import java.util.function.IntPredicate;

/** Promise 11 at its bounds: two sketches of one make that differ in one thing alone, be it the first or the last. */
public final class BoundsOfSamenessTest {
    public static void main(String[] arguments) {
        bits();
        registers();
        counters();
        rows();
        levels();
        turnsAlone();
        errorAlone();
        placesOfSamples();
        bucketSizes();
        bucketTimes();
        leastHashes();
        cellCounts();
        cellSums();
        cellHashes();
        Check.end("BoundsOfSamenessTest");
    }

    private static Sketchery two(char kind, int size, int second, int seed) {
        Sketchery room = new Sketchery();
        room.sketch(kind, size, second, seed);
        room.sketch(kind, size, second, seed);
        return room;
    }

    private static void isSame(String what, boolean due, Sketchery room) {
        Check.same(what, due, room.isSame(0, 1));
        Check.same(what + ", the other way", due, room.isSame(1, 0));
    }

    private static int itemWith(IntPredicate isSuch) {
        for (int item = 0; item < 65536; item++) {
            if (isSuch.test(item)) {
                return item;
            }
        }
        throw new IllegalStateException("no such item");
    }

    private static int place(int item, int seed, int n) {
        return (PlainRoom.hash(item, seed) >>> 1) % n;
    }

    private static void bits() {
        Check.about("promise 11, 'f'");
        for (int bits : new int[] {8, 64, 65, 256}) {
            for (int bit : new int[] {0, 1, bits - 1}) {
                Sketchery room = two('f', bits, 1, 3);
                int other = itemWith(item -> place(item, 3, bits) == 2);
                int one = itemWith(item -> place(item, 3, bits) == bit);
                Check.add(room, 0, 1, other, one);
                Check.add(room, 1, 1, other);
                isSame("the bit " + bit + " of " + bits + " alone", false, room);
                Check.add(room, 1, 1, one);
                isSame("all bits", true, room);
            }
        }
    }

    private static void registers() {
        Check.about("promise 11, 'd'");
        for (int size = 4; size <= 64; size *= 2) {
            int last = size - 1;
            for (int register : new int[] {0, 1, last}) {
                int lesser = itemWith(item -> (PlainRoom.hash(item, 3) & last) == register && PlainRoom.hash(item, 3) < 0);
                int greater = itemWith(item -> (PlainRoom.hash(item, 3) & last) == register && PlainRoom.hash(item, 3) > 0);
                Sketchery room = two('d', size, 0, 3);
                Check.add(room, 0, 1, lesser);
                isSame("the register " + register + " of " + size + " alone", false, room);
                Check.add(room, 1, 1, greater);
                isSame("a greater register " + register + " of " + size, false, room);
                Check.add(room, 0, 1, greater);
                isSame("all registers", true, room);
            }
        }
    }

    private static void counters() {
        Check.about("promise 11, 'h'");
        for (int used : new int[] {1, 2, 8}) {
            for (int at : new int[] {0, used - 1}) {
                Sketchery room = two('h', 8, 0, 3);
                for (int i = 0; i < used; i++) {
                    Check.add(room, 0, 5, i);
                    Check.add(room, 1, 5, i == at ? 100 : i);
                }
                isSame("the item of the counter " + at + " of " + used + " alone", false, room);
                room = two('h', 8, 0, 3);
                for (int i = 0; i < used; i++) {
                    Check.add(room, 0, 5, i);
                    Check.add(room, 1, i == at ? 4 : 5, used - 1 - i);
                }
                isSame("the count of one of " + used + " alone", false, room);
                Check.add(room, 1, 1, used - 1 - at);
                isSame("all counters, whichever came first", true, room);
            }
        }
        Sketchery fewer = two('h', 2, 0, 3);
        Check.add(fewer, 0, 5, 1, 2);
        Check.add(fewer, 1, 5, 1);
        isSame("a counter more", false, fewer);
        Sketchery error = two('h', 1, 0, 3);
        Check.add(error, 0, 5, 1);
        Check.add(error, 1, 6, 1);
        Check.add(error, 1, 1, 2);
        isSame("the error alone", false, error);
        Check.add(error, 0, 1, 1, 2);
        isSame("the error, too", true, error);
    }

    /** Two items of the same places in all rows but one. */
    private static void rows() {
        Check.about("promise 11, 'c'");
        for (int row = 0; row < 2; row++) {
            int same = 1 - row;
            int differing = row;
            int other = itemWith(item -> item > 0 && place(item, 3 + same, 64) == place(0, 3 + same, 64)
                && place(item, 3 + differing, 64) != place(0, 3 + differing, 64));
            Sketchery room = two('c', 64, 2, 3);
            Check.add(room, 0, 1, 0);
            Check.add(room, 1, 1, other);
            isSame("the row " + row + " alone", false, room);
            Check.add(room, 0, 1, other);
            Check.add(room, 1, 1, 0);
            isSame("all rows", true, room);
        }
        for (int at : new int[] {0, 63}) {
            Sketchery room = two('c', 64, 1, 3);
            int one = itemWith(item -> place(item, 3, 64) == at);
            Check.add(room, 0, 999, one);
            Check.add(room, 1, 1000, one);
            isSame("the count of the place " + at + " alone", false, room);
            Check.add(room, 0, 1, one);
            isSame("all counts", true, room);
        }
    }

    private static void levels() {
        Check.about("promise 11, 'q'");
        Sketchery rising = two('q', 4, 0, 3);
        Check.add(rising, 0, 1, 4, 3, 1, 2);
        Check.add(rising, 1, 1, 2, 1, 4, 3);
        isSame("rising rows", true, rising);
        for (int at = 0; at < 4; at++) {
            Sketchery room = two('q', 4, 0, 3);
            int[] items = {10, 20, 30, 40};
            Check.add(room, 0, 1, items);
            items[at]++;
            Check.add(room, 1, 1, items);
            isSame("the item " + at + " of the level 0 alone", false, room);
        }
        for (int at = 0; at < 4; at += 2) {
            Sketchery room = two('q', 4, 0, 3);
            int[] items = {10, 20, 30, 40, 50};
            Check.add(room, 0, 1, items);
            items[at]++;
            Check.add(room, 1, 1, items);
            isSame("the item of the level 1 at " + at / 2 + " alone", false, room);
        }
        Sketchery forgotten = two('q', 4, 0, 3);
        Check.add(forgotten, 0, 1, 10, 20, 30, 40, 50);
        Check.add(forgotten, 1, 1, 10, 21, 30, 41, 50);
        isSame("those forgotten alone", true, forgotten);
        Sketchery more = two('q', 4, 0, 3);
        Check.add(more, 0, 1, 10, 20);
        Check.add(more, 1, 1, 10, 20, 30);
        isSame("an item more", false, more);
    }

    private static void turnsAlone() {
        Check.about("promise 11, 'q'");
        Sketchery room = two('q', 2, 0, 3);
        Check.add(room, 0, 1, 10, 20, 30);
        room.merge(1, 0);
        Check.same("the level 0 is the same", room.keptAt(0, 0, 0), room.keptAt(1, 0, 0));
        Check.same("the level 1 is the same", room.keptAt(0, 1, 0), room.keptAt(1, 1, 0));
        Check.same("the error is the same", room.error(0), room.error(1));
        isSame("the turn of the level 0 alone", false, room);
        turnsOfLevel(1, 9);
        turnsOfLevel(2, 21);
    }

    /** So many items let a level be compacted once, and those below it an even number of times. */
    private static void turnsOfLevel(int level, int many) {
        Sketchery room = two('q', 2, 0, 3);
        room.sketch('q', 2, 0, 3);
        room.typeRow(1, 1, many);
        room.addTyped(0, 1);
        room.addTyped(2, 1);
        isSame("an item at least", false, room);
        room.merge(1, 2);
        Check.same("the error is the same", room.error(0), room.error(1));
        for (int each = 0; each <= level + 1; each++) {
            Check.same("the level " + each + " is as full", room.kept(0, each), room.kept(1, each));
            for (int i = 0; i < room.kept(0, each); i++) {
                Check.same("the level " + each + " is the same", room.keptAt(0, each, i), room.keptAt(1, each, i));
            }
        }
        isSame("the turn of the level " + level + " alone", false, room);
        Check.same("with all turns", true, room.isSame(0, 2));
    }

    /** One sketch compacts four items at once, the other one merges a compaction and has one of its own. */
    private static void errorAlone() {
        Check.about("promise 11, 'q'");
        Sketchery room = two('q', 2, 0, 3);
        room.sketch('q', 2, 0, 3);
        room.sketch('q', 2, 0, 3);
        Check.add(room, 0, 1, 1, 2);
        Check.add(room, 2, 1, 3, 4);
        room.merge(0, 2);
        Check.add(room, 0, 1, 5);
        Check.add(room, 3, 1, 1, 2, 3);
        room.merge(1, 3);
        Check.add(room, 1, 1, 4, 5);
        for (int sketch = 0; sketch < 2; sketch++) {
            Check.same("the level 0 has 5", 5, room.keptAt(sketch, 0, 0));
            Check.same("the level 1 has 1", 1, room.keptAt(sketch, 1, 0));
            Check.same("the level 1 has 3", 3, room.keptAt(sketch, 1, 1));
            Check.same("the error", sketch + 1L, room.error(sketch));
        }
        isSame("the error alone", false, room);
    }

    private static void placesOfSamples() {
        Check.about("promise 11, 's'");
        for (int at : new int[] {0, 5, 9}) {
            Sketchery room = two('s', 10, 0, 3);
            for (int i = 0; i < 10; i++) {
                Check.add(room, 0, 1, i);
                Check.add(room, 1, 1, i == at ? 100 : i);
            }
            isSame("the place " + at + " alone", false, room);
        }
        Sketchery placed = two('s', 2, 0, 3);
        Check.add(placed, 0, 1, 7, 8);
        Check.add(placed, 1, 1, 8, 7);
        isSame("the same items, otherwise placed", false, placed);
        Sketchery fewer = two('s', 2, 0, 3);
        Check.add(fewer, 0, 1, 0, 0);
        Check.add(fewer, 1, 1, 0);
        isSame("an item more", false, fewer);
        Sketchery alone = two('s', 1, 0, 3);
        Check.add(alone, 0, 1, 7);
        Check.add(alone, 1, 1, 7, 7, 7, 7);
        isSame("the items alone, whatever was drawn", true, alone);
    }

    private static void bucketSizes() {
        Check.about("promise 11, 'w'");
        Sketchery room = two('w', 9, 2, 3);
        Check.add(room, 0, 1, 1, 1);
        Check.add(room, 1, 1, 1);
        isSame("a bucket more", false, room);
        Check.add(room, 1, 1, 1, 1);
        // 1 1 and 2 1, all at the time 0.
        isSame("the size of the oldest one alone", false, room);
        Check.add(room, 0, 1, 1);
        isSame("sizes and times, whatever was added", true, room);
    }

    private static void bucketTimes() {
        Check.about("promise 11, 'w'");
        Sketchery last = two('w', 9, 4, 3);
        Check.add(last, 0, 1, 1, 1);
        Check.add(last, 1, 1, 1);
        last.tick(1);
        Check.add(last, 1, 1, 1);
        isSame("the time of the youngest one alone", false, last);
        Sketchery first = two('w', 9, 4, 3);
        Check.add(first, 0, 1, 1);
        first.tick(1);
        Check.add(first, 0, 1, 1);
        Check.add(first, 1, 1, 1, 1);
        isSame("the time of the oldest one alone", false, first);
        first.tick(8);
        // The oldest one of the first window is gone.
        isSame("one bucket and two", false, first);
        first.tick(1);
        isSame("none and none", true, first);
        Sketchery later = two('w', 9, 4, 3);
        later.tick(5);
        Check.add(later, 0, 1, 1, 1);
        Check.add(later, 1, 1, 2, 3);
        isSame("sizes and times, whichever items", true, later);
    }

    /** Whether its hash is less than those of the items 0 to 3 by one seed alone. */
    private static boolean isLeastAtAlone(int item, int at) {
        for (int i = 0; i < 16; i++) {
            int least = Integer.MAX_VALUE;
            for (int other = 0; other < 4; other++) {
                least = Math.min(least, PlainRoom.hash(other, 3 + i));
            }
            if (PlainRoom.hash(item, 3 + i) < least != (i == at)) {
                return false;
            }
        }
        return true;
    }

    private static void leastHashes() {
        Check.about("promise 11, 'm'");
        for (int at : new int[] {0, 7, 15}) {
            Sketchery room = two('m', 16, 0, 3);
            int less = itemWith(item -> isLeastAtAlone(item, at));
            Check.add(room, 0, 1, 0, 1, 2, 3, less);
            Check.add(room, 1, 1, 3, 2, 1, 0);
            isSame("the hash " + at + " alone", false, room);
            Check.same("all others are the same", 15, room.likeness(0, 1));
            Check.add(room, 1, 1, less);
            isSame("all hashes", true, room);
        }
        int above = itemWith(item -> PlainRoom.hash(item, 0) > 0);
        Sketchery none = two('m', 1, 0, 0);
        Check.add(none, 0, 1, above);
        isSame("a hash and none", false, none);
        Sketchery zero = two('m', 1, 0, 0);
        Check.add(zero, 0, 1, 0);
        isSame("the hash 0 and none", false, zero);
    }

    private static void cellCounts() {
        Check.about("promise 11, 'i'");
        Sketchery room = two('i', 3, 0, 3);
        Check.add(room, 0, 1, 9, 9);
        isSame("counts alone", false, room);
        Check.add(room, 1, 1, 8, 8);
        isSame("the same counts, and all sums 0", true, room);
    }

    /** As many items here and there, with the sums of one another told. */
    private static Sketchery cellsOf(List<Integer> items) {
        Sketchery room = two('i', 3, 0, 3);
        for (int i = 0; i < items.size(); i++) {
            Check.add(room, i % 2, 1, items.get(i));
        }
        return room;
    }

    private static void cellSums() {
        Check.about("promise 11 and 30, 'i'");
        Sketchery room = cellsOf(ItemSums.itemsFor(4711, 0, false, 3, item -> item < 30000));
        isSame("sums alone", false, room);
        Check.same("cells are not empty by sums alone", 3, room.subtract(0, 1));
        Check.same("not clean by sums alone", false, room.isClean(0));
        Check.same("nor is one peeled", 0, room.peeled(0, true) + room.peeled(0, false));
    }

    private static void cellHashes() {
        Check.about("promise 11 and 30, 'i'");
        Sketchery room = cellsOf(ItemSums.itemsFor(0, 1 << 31, false, 3, item -> item < 30000));
        isSame("sums of hashes alone", false, room);
        Check.same("cells are not empty by sums of hashes alone", 3, room.subtract(0, 1));
        Check.same("not clean by sums of hashes alone", false, room.isClean(0));
        Sketchery none = cellsOf(ItemSums.itemsFor(0, 0, false, 3, item -> item < 2));
        isSame("nothing at all", true, none);
    }
}
