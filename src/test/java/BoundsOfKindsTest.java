import java.util.HashMap;
import java.util.Map;

/** The kinds 'f', 'd', 'h' and 'c' at their bounds, sentence by sentence of 'Terms'. */
public final class BoundsOfKindsTest {
    public static void main(String[] arguments) {
        filterPlaces();
        filterNeverForgets();
        filterMerges();
        distinctZeros();
        distinctLowestBits();
        distinctGreater();
        distinctMerges();
        heavyCounters();
        heavyAllInUse();
        heavyIsOneSided();
        heavyMergesUpToSize();
        heavyMergesAboveSize();
        heavyMergesLikeCounts();
        heavyWraps();
        heavyTakesFromWrapped();
        rowPlaces();
        rowsAreOneSided();
        rowsMerge();
        weightsOfKinds();
        Check.end("BoundsOfKindsTest");
    }

    private static int place(int item, int seed, int n) {
        return (PlainRoom.hash(item, seed) >>> 1) % n;
    }

    /** Seeds go on above 65535, and a place is told by a hash below 0, too. */
    private static void filterPlaces() {
        Check.about("'f'");
        int some = 0;
        for (int bits : new int[] {8, 64, 65, 256}) {
            for (int hashes : new int[] {1, 2, 8}) {
                for (int seed : new int[] {0, 65528, 65535}) {
                    some += filterPlacesOf(bits, hashes, seed);
                }
            }
        }
        Check.same("one bit alone was lacking for some items", true, some > 100);
    }

    /** Returns for how many items one bit alone is not set. */
    private static int filterPlacesOf(int bits, int hashes, int seed) {
        Sketchery room = Check.room('f', bits, hashes, seed);
        boolean[] set = new boolean[bits];
        int ones = 0;
        for (int item : new int[] {0, 65535, 1, 40000}) {
            Check.add(room, 0, 1000, item);
            for (int i = 0; i < hashes; i++) {
                int at = place(item, seed + i, bits);
                ones += set[at] ? 0 : 1;
                set[at] = true;
            }
            Check.same("bits by " + hashes + " hashes of " + item, ones, room.ones(0));
        }
        int lackingOne = 0;
        for (int item = 0; item < 400; item++) {
            int lacking = 0;
            for (int i = 0; i < hashes; i++) {
                lacking += set[place(item, seed + i, bits)] ? 0 : 1;
            }
            lackingOne += lacking == 1 ? 1 : 0;
            Check.same(item + " may be, of " + bits, lacking == 0, room.may(0, item));
        }
        return lackingOne;
    }

    private static void filterNeverForgets() {
        Check.about("'f', which never forgets a yes");
        Sketchery room = Check.room('f', 256, 8, 65535);
        for (int i = 0; i < 10; i++) {
            room.wipe();
            room.typeRow(i * 6000, 149, 40);
            room.addTyped(0, 1);
            for (int k = 0; k <= i; k++) {
                Check.same("the last of the row " + k, true, room.may(0, k * 6000 + 39 * 149));
            }
        }
        for (int i = 0; i < 400; i++) {
            Check.same("item " + i, true, room.may(0, i / 40 * 6000 + i % 40 * 149));
        }
    }

    private static void filterMerges() {
        Check.about("'f' merged");
        Sketchery room = new Sketchery();
        room.sketch('f', 256, 1, 0);
        room.sketch('f', 256, 1, 0);
        Check.add(room, 0, 1, 0, 1);
        Check.add(room, 1, 1, 1, 65535);
        Check.same("three places", 3, count(place(0, 0, 256), place(1, 0, 256), place(65535, 0, 256)));
        room.merge(0, 1);
        Check.same("bits set in one of both, or in both", 3, room.ones(0));
        Check.same("the first stays there", true, room.may(0, 0));
        Check.same("the last is there", true, room.may(0, 65535));
        Check.same("the other one stays", 2, room.ones(1));
        Check.same("and has no more", false, room.may(1, 0));
    }

    private static int count(int... places) {
        Map<Integer, Integer> different = new HashMap<>();
        for (int place : places) {
            different.put(place, place);
        }
        return different.size();
    }

    /** The first item and seed whose hash has so many zeros from the top. */
    private static int[] itemWithZeros(int zeros) {
        for (int seed = 0; seed < 65536; seed++) {
            for (int item = 1; item < 65536; item++) {
                if (Integer.numberOfLeadingZeros(PlainRoom.hash(item, seed)) == zeros) {
                    return new int[] {item, seed};
                }
            }
        }
        throw new IllegalStateException("no such item");
    }

    private static void distinctZeros() {
        Check.about("'d'");
        for (int zeros = 0; zeros <= 22; zeros++) {
            int[] found = itemWithZeros(zeros);
            Sketchery room = Check.room('d', 4, 0, found[1], found[0]);
            int index = PlainRoom.hash(found[0], found[1]) & 3;
            for (int i = 0; i < 4; i++) {
                int due = i == index ? Math.min(20, 1 + zeros) : 0;
                Check.same(zeros + " zeros from the top, register " + i, due, room.register(0, i));
            }
            Check.same("sound with " + zeros + " zeros", true, room.isSound());
        }
        Check.same("all 32 are zeros", 20, Check.room('d', 64, 0, 0, 0).register(0, 0));
    }

    private static void distinctLowestBits() {
        Check.about("'d'");
        for (int size = 4; size <= 64; size *= 2) {
            boolean[] met = new boolean[size];
            for (int item = 65535; item > 65235; item--) {
                int hash = PlainRoom.hash(item, 65535);
                Sketchery room = Check.room('d', size, 0, 65535, item);
                int index = hash & size - 1;
                met[index] = true;
                Check.same("the register of " + item + " out of " + size,
                    1 + Integer.numberOfLeadingZeros(hash), room.register(0, index));
            }
            Check.same("the first and the last one of " + size, true, met[0] && met[size - 1]);
        }
    }

    /** An item for the register 0 of four, by the seed 0, whose register is told. */
    private static int itemFor(int register) {
        int item = 1;
        while (true) {
            int hash = PlainRoom.hash(item, 0);
            if ((hash & 3) == 0 && 1 + Integer.numberOfLeadingZeros(hash) == register) {
                return item;
            }
            item++;
        }
    }

    private static void distinctGreater() {
        Check.about("'d'");
        Sketchery room = Check.room('d', 4, 0, 0);
        int[] registers = {1, 2, 1, 2, 5, 4, 5, 6, 1};
        int greatest = 0;
        for (int register : registers) {
            Check.add(room, 0, 1000, itemFor(register));
            greatest = Math.max(greatest, register);
            Check.same("it becomes " + register + ", if that is greater", greatest, room.register(0, 0));
        }
        Check.add(room, 0, 1, 0);
        Check.same("it becomes 20", 20, room.register(0, 0));
        Check.add(room, 0, 1, 0, itemFor(7));
        Check.same("20 stays", 20, room.register(0, 0));
    }

    private static void distinctMerges() {
        Check.about("'d' merged");
        for (int one = 1; one <= 4; one++) {
            for (int two = 1; two <= 4; two++) {
                Sketchery room = new Sketchery();
                room.sketch('d', 4, 0, 0);
                room.sketch('d', 4, 0, 0);
                Check.add(room, 0, 1, itemFor(one));
                Check.add(room, 1, 1, itemFor(two));
                room.merge(0, 1);
                Check.same("the greater of " + one + " and " + two, Math.max(one, two), room.register(0, 0));
                Check.same("the other one stays", two, room.register(1, 0));
                Check.same("0 and 0", 0, room.register(0, 3));
            }
        }
    }

    private static void countsAre(Sketchery room, int sketch, long error, long... itemsAndCounts) {
        for (int i = 0; i < itemsAndCounts.length; i += 2) {
            int item = (int) itemsAndCounts[i];
            Check.same("the count of " + item, itemsAndCounts[i + 1], room.count(sketch, item));
        }
        Check.same("the error", error, room.error(sketch));
        Check.same("sound", true, room.isSound());
    }

    private static void heavyCounters() {
        Check.about("'h'");
        Sketchery one = Check.room('h', 1, 0, 0);
        Check.add(one, 0, 3, 5);
        countsAre(one, 0, 0, 5, 3);
        Check.add(one, 0, 2, 6);
        countsAre(one, 0, 2, 5, 1, 6, 0);
        Check.add(one, 0, 1, 6);
        countsAre(one, 0, 3, 5, 0, 6, 0);
        Check.elements("its one counter is free,", 0, index -> one.heavyAt(0, index));
        Check.add(one, 0, 1000, 6);
        countsAre(one, 0, 3, 6, 1000);
        Check.add(one, 0, 1, 7);
        countsAre(one, 0, 4, 6, 999, 7, 0);
        Check.add(one, 0, 1000, 7);
        countsAre(one, 0, 1003, 6, 0, 7, 1);
        Check.same("all that was seen", 2007L, one.seen(0));
    }

    private static void heavyAllInUse() {
        Check.about("'h' of eight counters");
        Sketchery room = Check.room('h', 8, 0, 0);
        for (int item = 0; item < 8; item++) {
            Check.add(room, 0, 10 + item / 2, item);
        }
        Check.elements("all in use, counter", 8, index -> room.heavyAt(0, index));
        Check.add(room, 0, 1, 0);
        countsAre(room, 0, 0, 0, 11, 1, 10, 7, 13);
        Check.add(room, 0, 4, 65535);
        // 1 had the least count, 10; the weight is less.
        countsAre(room, 0, 4, 0, 7, 1, 6, 2, 7, 3, 7, 4, 8, 7, 9, 65535, 0);
        Check.add(room, 0, 6, 65535);
        countsAre(room, 0, 10, 0, 1, 1, 0, 2, 1, 3, 1, 4, 2, 7, 3, 65535, 0);
        Check.elements("one is free, counter", 7, index -> room.heavyAt(0, index));
        Check.add(room, 0, 1, 65535);
        countsAre(room, 0, 10, 65535, 1);
        Check.add(room, 0, 3, 65534);
        // 0, 2, 3 and 65535 had 1; two are left of 3.
        countsAre(room, 0, 11, 0, 0, 2, 0, 3, 0, 65535, 0, 4, 1, 5, 1, 6, 2, 7, 2, 65534, 2);
        Check.elements("three are free, counter", 5, index -> room.heavyAt(0, index));
        Check.same("of like counts the lower item", 6, room.heavyAt(0, 0));
    }

    private static void heavyIsOneSided() {
        Check.about("'h', no count too small by more than the error, and none too great");
        for (int size = 1; size <= 8; size++) {
            Sketchery room = new Sketchery();
            room.sketch('h', size, 0, 0);
            room.sketch('h', size, 0, 0);
            long[] own = new long[20];
            long[] others = new long[20];
            for (int i = 0; i < 40; i++) {
                int item = i * i % 20;
                int weight = 1 + i * 37 % 50;
                Check.add(room, i % 2, weight, item);
                long[] counts = i % 2 == 0 ? own : others;
                counts[item] += weight;
            }
            areWithin(room, 0, own);
            areWithin(room, 1, others);
            room.merge(0, 1);
            for (int item = 0; item < 20; item++) {
                own[item] += others[item];
            }
            areWithin(room, 0, own);
            areWithin(room, 1, others);
        }
    }

    private static void areWithin(Sketchery room, int sketch, long[] due) {
        long error = room.error(sketch);
        for (int item = 0; item < due.length; item++) {
            long count = room.count(sketch, item);
            Check.same(count + " for " + due[item], true, count <= due[item] && count >= due[item] - error);
        }
    }

    private static Sketchery twoHeavy(int size, int[] some, int[] others) {
        Sketchery room = new Sketchery();
        room.sketch('h', size, 0, 0);
        room.sketch('h', size, 0, 0);
        for (int sketch = 0; sketch < 2; sketch++) {
            int[] all = sketch == 0 ? some : others;
            for (int i = 0; i < all.length; i += 2) {
                Check.add(room, sketch, all[i + 1], all[i]);
            }
        }
        return room;
    }

    private static void heavyMergesUpToSize() {
        Check.about("'h' merged");
        Sketchery room = twoHeavy(4, new int[] {1, 10, 2, 20}, new int[] {2, 5, 3, 1, 4, 1000});
        room.merge(0, 1);
        countsAre(room, 0, 0, 1, 10, 2, 25, 3, 1, 4, 1000);
        countsAre(room, 1, 0, 1, 0, 2, 5, 3, 1, 4, 1000);
        Sketchery full = twoHeavy(2, new int[] {1, 10, 2, 20}, new int[] {2, 5, 1, 1});
        full.merge(0, 1);
        countsAre(full, 0, 0, 1, 11, 2, 25);
    }

    private static void heavyMergesAboveSize() {
        Check.about("'h' merged");
        Sketchery one = twoHeavy(2, new int[] {1, 10, 2, 20}, new int[] {3, 15});
        one.merge(0, 1);
        // 20 15 10: the count at the place 2 is 10.
        countsAre(one, 0, 10, 1, 0, 2, 10, 3, 5);
        Check.same("seen", 45L, one.seen(0));
        Sketchery errors = twoHeavy(1, new int[] {1, 10, 2, 4}, new int[] {3, 9, 4, 2});
        errors.merge(0, 1);
        // 6 and 7, and errors of 4 and 2; 6 is taken away.
        countsAre(errors, 0, 12, 1, 0, 3, 1);
        countsAre(errors, 1, 2, 3, 7);
        Sketchery eight = new Sketchery();
        eight.sketch('h', 8, 0, 0);
        eight.sketch('h', 8, 0, 0);
        for (int i = 0; i < 8; i++) {
            Check.add(eight, 0, 2 * i + 2, i);
            Check.add(eight, 1, 2 * i + 1, 100 + i);
        }
        eight.merge(0, 1);
        // 16 to 1, of which the one at the place 8 is 8.
        countsAre(eight, 0, 8, 7, 8, 107, 7, 6, 6, 106, 5, 5, 4, 105, 3, 4, 2, 104, 1, 3, 0, 103, 0, 0, 0, 100, 0);
        Check.elements("all in use, counter", 8, index -> eight.heavyAt(0, index));
    }

    private static void heavyMergesLikeCounts() {
        Check.about("'h' merged");
        Sketchery all = twoHeavy(2, new int[] {1, 7, 2, 7}, new int[] {3, 7, 4, 7});
        all.merge(0, 1);
        countsAre(all, 0, 7, 1, 0, 2, 0, 3, 0, 4, 0);
        Check.elements("nothing is left,", 0, index -> all.heavyAt(0, index));
        Sketchery one = twoHeavy(2, new int[] {1, 9, 2, 7}, new int[] {3, 7, 4, 7});
        one.merge(0, 1);
        countsAre(one, 0, 7, 1, 2, 2, 0, 3, 0, 4, 0);
        Check.elements("one is left,", 1, index -> one.heavyAt(0, index));
        Sketchery like = twoHeavy(1, new int[] {1, 4}, new int[] {1, 4});
        like.merge(0, 1);
        countsAre(like, 0, 0, 1, 8);
    }

    /** Counts above a long: the sums are those of Java. */
    private static void heavyWraps() {
        Check.about("'h', counts as longs");
        Sketchery room = twoHeavy(1, new int[] {5, 1000}, new int[] {5, 999});
        long[] counts = {1000, 999};
        int below = 0;
        for (int i = 0; i < 100; i++) {
            int into = i % 2;
            counts[into] += counts[1 - into];
            room.merge(into, 1 - into);
            Check.same("the count after " + i, counts[into], room.count(into, 5));
            Check.same("all that was seen after " + i, counts[into], room.seen(into));
            below += counts[into] < 0 ? 1 : 0;
        }
        Check.same("some are below 0", true, below > 0);
    }

    /** One counter is below 0, and another one so far above it that their difference wraps around. */
    private static void heavyTakesFromWrapped() {
        Check.about("'h', counts as longs");
        Sketchery room = twoHeavy(2, new int[] {1, 2, 2, 1}, new int[] {1, 2, 2, 1});
        long[] counts = {1, 1};
        for (int i = 0; i < 90; i++) {
            counts[i % 2] += counts[1 - i % 2];
            room.merge(i % 2, 1 - i % 2);
        }
        long one = 2 * counts[1];
        long two = counts[1];
        countsAre(room, 1, 0, 1, one, 2, two);
        Check.same("one is below 0", true, one < 0 && two > 0 && two - one < 0);
        Check.same("the greater count first", 2, room.heavyAt(1, 0));
        Check.add(room, 1, 5, 3);
        countsAre(room, 1, one, 1, 0, 2, two - one, 3, 5 - one);
        Check.elements("the counter at 0 alone was free,", 2, index -> room.heavyAt(1, index));
        Check.same("what is left of the weight first", 3, room.heavyAt(1, 0));
        Check.same("then what is below 0", 2, room.heavyAt(1, 1));
    }

    private static void rowPlaces() {
        Check.about("'c'");
        for (int places : new int[] {2, 3, 63, 64}) {
            for (int rows : new int[] {1, 6}) {
                for (int seed : new int[] {0, 65530, 65535}) {
                    rowPlacesOf(places, rows, seed);
                }
            }
        }
    }

    private static void rowPlacesOf(int places, int rows, int seed) {
        Sketchery room = Check.room('c', places, rows, seed);
        long[][] due = new long[rows][places];
        int[] items = {0, 65535, 7, 30000};
        for (int i = 0; i < items.length; i++) {
            int weight = i == 0 ? 1000 : i;
            Check.add(room, 0, weight, items[i]);
            for (int row = 0; row < rows; row++) {
                due[row][place(items[i], seed + row, places)] += weight;
            }
        }
        for (int item = 0; item < 50; item++) {
            long least = Long.MAX_VALUE;
            for (int row = 0; row < rows; row++) {
                least = Math.min(least, due[row][place(item, seed + row, places)]);
            }
            Check.same("the least for " + item + " in " + places, least, room.count(0, item));
            for (int row = 0; row < rows; row++) {
                long more = due[row][place(item, seed + row, places)] - least;
                Check.same("more in the row " + row, more, room.excess(0, row, item));
            }
        }
        Check.same("sound", true, room.isSound());
    }

    private static void rowsAreOneSided() {
        Check.about("'c', which is never too small");
        Sketchery room = Check.room('c', 2, 1, 9);
        room.typeRow(0, 1, 40);
        for (int i = 1; i <= 20; i++) {
            room.addTyped(0, 1000);
        }
        long all = 0;
        for (int item = 0; item < 40; item++) {
            long count = room.count(0, item);
            Check.same("the count of " + item, true, count >= 20000);
            all = Math.max(all, count);
        }
        Check.same("two places have all", 800000L, all + room.excess(0, 0, 0) + otherPlace(room, all));
    }

    private static long otherPlace(Sketchery room, long greatest) {
        for (int item = 0; item < 40; item++) {
            if (room.count(0, item) != greatest) {
                return room.count(0, item);
            }
        }
        return 0;
    }

    private static void rowsMerge() {
        Check.about("'c' merged");
        Sketchery room = new Sketchery();
        room.sketch('c', 64, 6, 65535);
        room.sketch('c', 64, 6, 65535);
        Check.add(room, 0, 1000, 0);
        Check.add(room, 1, 1, 0, 65535);
        room.merge(0, 1);
        Check.same("both are added", 1001L, room.count(0, 0));
        Check.same("one alone is added", 1L, room.count(0, 65535));
        Check.same("the other one stays", 1L, room.count(1, 0));
        Check.same("sound", true, room.isSound());
        long[] counts = {1001, 1};
        int below = 0;
        for (int i = 0; i < 120; i++) {
            int into = i % 2;
            counts[into] += counts[1 - into];
            room.merge(into, 1 - into);
            boolean isBelow = counts[into] < 0;
            below += isBelow ? 1 : 0;
            Check.same("the sum of a row, as a long, after " + i, true, room.isSound());
            if (below == 0) {
                Check.same("the count after " + i, counts[into], room.count(into, 0));
            }
        }
        Check.same("some sums are below 0", true, below > 0);
    }

    private static void weightsOfKinds() {
        for (char kind : "fdhcqswmi".toCharArray()) {
            Check.about("'" + kind + "', weights");
            boolean isWeighed = kind == 'h' || kind == 'c';
            Sketchery room = new Sketchery();
            room.sketch(kind, BoundsOfCallsTest.size(kind), BoundsOfCallsTest.second(kind), 0);
            room.sketch(kind, BoundsOfCallsTest.size(kind), BoundsOfCallsTest.second(kind), 0);
            room.typeRow(0, 1, 5);
            room.addTyped(0, 1);
            room.addTyped(1, 1000);
            Check.same("1 each", 5L, room.seen(0));
            Check.same("1000 each, or once", isWeighed ? 5000L : 5L, room.seen(1));
            Check.same("they are the same, or the weights count", !isWeighed, room.isSame(0, 1));
        }
    }
}
