/** Promises 34 to 39. */
public final class FailuresAndFiguresTest {
    public static void main(String[] arguments) {
        filterFailures();
        cellFailures();
        leastBits();
        failureRefusals();
        seenShare();
        checksum();
        isSound();
        Check.end("FailuresAndFiguresTest");
    }

    /** Counted through the face: a filter for each seed. */
    private static int failuresByHand(int bits, int hashes, int items, int seeds) {
        int failures = 0;
        for (int seed = 0; seed < seeds; seed++) {
            Sketchery room = new Sketchery();
            room.sketch('f', bits, hashes, seed);
            if (items > 0) {
                room.typeRow(0, 1, items);
            }
            room.addTyped(0, 1);
            failures += room.may(0, items) ? 1 : 0;
        }
        return failures;
    }

    private static void filterFailures() {
        Sketchery room = new Sketchery();
        Check.same("16 2 5 100", 29, room.filterFailures(16, 2, 5, 100));
        Check.same("no items", 0, room.filterFailures(8, 1, 0, 500));
        int[][] all = {{8, 1, 40, 500}, {256, 8, 40, 500}, {9, 3, 1, 77}, {256, 1, 40, 300}, {64, 8, 20, 1}};
        for (int[] each : all) {
            Check.same("failures", failuresByHand(each[0], each[1], each[2], each[3]),
                room.filterFailures(each[0], each[1], each[2], each[3]));
        }
        Check.same("no sketch is made", 7L, room.checksum());
    }

    private static void cellFailures() {
        Sketchery room = new Sketchery();
        Check.same("12 6 50", 12, room.cellFailures(12, 6, 50));
        Check.same("no items", 0, room.cellFailures(3, 0, 100));
        Check.same("one item", 0, room.cellFailures(3, 1, 100));
        Check.same("two items in three cells", 100, room.cellFailures(3, 2, 100));
        Check.same("forty in few", 100, room.cellFailures(6, 40, 100));
        int[][] all = {{60, 40, 100}, {30, 10, 100}, {15, 7, 63}, {60, 25, 1}};
        for (int[] each : all) {
            Check.same("failures", PlainRoom.cellFailures(each[0], each[1], each[2]),
                room.cellFailures(each[0], each[1], each[2]));
        }
        Sketchery other = Check.room('i', 30, 0, 3, 1, 2, 3);
        other.cellFailures(12, 6, 50);
        Check.same("the sketches stay", 3, other.peeled(0, true));
    }

    private static void leastBits() {
        Sketchery room = new Sketchery();
        Check.same("5 40 4", 37, room.leastBits(5, 40, 4));
        Check.same("the greatest filter", 256, room.leastBits(28, 61, 2));
        Check.same("no items", 8, room.leastBits(0, 100, 0));
        Check.same("all may fail", 8, room.leastBits(40, 100, 100));
        Check.same("more than all", 8, room.leastBits(40, 1, Integer.MAX_VALUE));
        Check.refuses("none", Check.NONE, () -> room.leastBits(40, 100, 0));
        int[][] all = {{10, 50, 5}, {1, 100, 0}, {40, 100, 20}, {3, 1, 0}, {28, 61, 2}};
        for (int[] each : all) {
            int bits = room.leastBits(each[0], each[1], each[2]);
            Check.same("few fail", true, room.filterFailures(bits, 1, each[0], each[1]) <= each[2]);
            for (int fewer = 8; fewer < bits; fewer++) {
                Check.same("too many fail", true, room.filterFailures(fewer, 1, each[0], each[1]) > each[2]);
            }
        }
    }

    private static void failureRefusals() {
        Sketchery room = new Sketchery();
        int[][] filters = {
            {7, 1, 0, 1}, {257, 1, 0, 1}, {8, 0, 0, 1}, {8, 9, 0, 1}, {8, 1, -1, 1}, {8, 1, 41, 1}, {8, 1, 0, 0},
            {8, 1, 0, 501}, {Integer.MIN_VALUE, 1, 0, 1}, {8, Integer.MAX_VALUE, 0, 1}, {8, 1, Integer.MAX_VALUE, 1},
            {8, 1, 0, Integer.MIN_VALUE}
        };
        for (int[] each : filters) {
            Check.refuses("filterFailures", Check.ARGUMENT,
                () -> room.filterFailures(each[0], each[1], each[2], each[3]));
        }
        int[][] cells = {
            {0, 0, 1}, {2, 0, 1}, {4, 0, 1}, {59, 0, 1}, {61, 0, 1}, {63, 0, 1}, {-3, 0, 1}, {3, -1, 1}, {3, 41, 1},
            {3, 0, 0}, {3, 0, 101}, {Integer.MAX_VALUE, 0, 1}, {3, Integer.MIN_VALUE, 1}, {3, 0, Integer.MAX_VALUE}
        };
        for (int[] each : cells) {
            Check.refuses("cellFailures", Check.ARGUMENT, () -> room.cellFailures(each[0], each[1], each[2]));
        }
        int[][] bits = {
            {-1, 1, 0}, {41, 1, 0}, {0, 0, 0}, {0, 101, 0}, {0, 1, -1}, {0, 1, Integer.MIN_VALUE}, {40, 101, 0},
            {Integer.MAX_VALUE, 1, 0}, {0, Integer.MIN_VALUE, 0}
        };
        for (int[] each : bits) {
            Check.refuses("leastBits", Check.ARGUMENT, () -> room.leastBits(each[0], each[1], each[2]));
        }
    }

    private static void seenShare() {
        Sketchery room = new Sketchery();
        Check.refuses("none", Check.ARITHMETIC, room::seenShare);
        room.sketch('f', 8, 1, 0);
        Check.same("nothing seen", 0.0f, room.seenShare());
        room.sketch('h', 1, 0, 0);
        room.sketch('w', 1, 1, 0);
        Check.add(room, 2, 1, 5);
        Check.same("a third", 1.0f / 3.0f, room.seenShare());
        room.tick(2000);
        Check.same("what was seen stays so", 1.0f / 3.0f, room.seenShare());
        Check.add(room, 0, 1, 5);
        Check.same("two thirds", 2.0f / 3.0f, room.seenShare());
        Check.add(room, 1, 1, 5);
        Check.same("all", 1.0f, room.seenShare());
        room.sketch('f', 8, 1, 0);
        room.merge(3, 0);
        Check.same("merged ones, too", 1.0f, room.seenShare());
    }

    private static void figureIs(char kind, int size, int second, long seen, long figure, int... items) {
        Sketchery room = new Sketchery();
        room.sketch(kind, size, second, 0);
        Check.same(kind + " empty", 7L * 31 * 31, room.checksum());
        Check.add(room, 0, 5, items);
        Check.same(kind + " checksum", (7L * 31 + seen) * 31 + figure, room.checksum());
    }

    private static void checksum() {
        figureIs('f', 64, 1, 3, 2, 1, 1, 2);
        // The item 0 has a register of 20, 1 one of 3.
        figureIs('d', 4, 0, 3, 23, 0, 1, 1);
        figureIs('h', 2, 0, 20, 5, 1, 1, 2, 3);
        figureIs('c', 8, 3, 15, 15, 1, 2, 3);
        figureIs('q', 2, 0, 3, 2, 1, 2, 3);
        figureIs('s', 3, 0, 3, 65535L + 65535L + 65535L, 65535, 65535, 65535);
        figureIs('w', 3, 1, 4, 2, 1, 2, 3, 4);
        long sum = (long) PlainRoom.hash(4, 0) + PlainRoom.hash(4, 1) + PlainRoom.hash(4, 2);
        figureIs('m', 3, 0, 1, sum, 4);
        figureIs('i', 9, 0, 2, 6, 4, 4);
        Sketchery room = new Sketchery();
        room.sketch('c', 2, 1, 0);
        room.sketch('h', 1, 0, 0);
        Check.add(room, 0, 2, 1);
        Check.add(room, 1, 3, 1);
        Check.same("two sketches", (((7L * 31 + 2) * 31 + 2) * 31 + 3) * 31 + 3, room.checksum());
    }

    private static void isSound() {
        Sketchery room = new Sketchery();
        Check.same("an empty room", true, room.isSound());
        room.sketch('f', 8, 1, 0);
        room.sketch('d', 4, 0, 0);
        room.sketch('h', 2, 0, 0);
        room.sketch('h', 2, 0, 0);
        room.sketch('c', 4, 3, 0);
        room.sketch('q', 4, 0, 0);
        room.sketch('q', 4, 0, 0);
        room.sketch('w', 9, 2, 0);
        room.sketch('i', 9, 0, 0);
        room.sketch('m', 9, 0, 0);
        for (int i = 0; i < 30; i++) {
            room.wipe();
            room.typeRow(i * 7, i, 5 + i);
            room.addTyped(i % 10, 1 + i * 30);
            room.addTyped((i * 7 + 3) % 10, 1 + i * 30);
            room.merge(2 + i % 2, 3 - i % 2);
            room.merge(5 + i % 2, 6 - i % 2);
            room.tick(1 + i % 4);
            Check.same("sound " + i, true, room.isSound());
        }
    }
}
