/** Promises 12 to 19. */
public final class FiltersAndCountsTest {
    public static void main(String[] arguments) {
        filter();
        registers();
        estimate();
        heavy();
        heavyOrder();
        rows();
        refusals();
        Check.end("FiltersAndCountsTest");
    }

    private static int place(int item, int seed, int n) {
        return (PlainRoom.hash(item, seed) >>> 1) % n;
    }

    private static void filter() {
        for (int seed : new int[] {0, 5, 65535}) {
            Sketchery room = new Sketchery();
            room.sketch('f', 100, 3, seed);
            Check.same("none set", 0, room.ones(0));
            Check.same("none may be", false, room.may(0, 0));
            boolean[] bits = new boolean[100];
            for (int item = 0; item < 300; item += 15) {
                Check.add(room, 0, 1, item);
                int set = 0;
                for (int i = 0; i < 3; i++) {
                    bits[place(item, seed + i, 100)] = true;
                }
                for (boolean bit : bits) {
                    set += bit ? 1 : 0;
                }
                Check.same("ones", set, room.ones(0));
            }
            for (int item = 0; item < 300; item++) {
                boolean isDue = bits[place(item, seed, 100)] && bits[place(item, seed + 1, 100)]
                    && bits[place(item, seed + 2, 100)];
                Check.same("may " + item, isDue, room.may(0, item));
                if (item % 15 == 0) {
                    Check.same("never forgets a yes", true, room.may(0, item));
                }
            }
        }
        Sketchery room = Check.room('f', 256, 8, 0, 0);
        Check.same("the item 0 has more than a bit", true, room.ones(0) > 1);
        Sketchery least = new Sketchery();
        least.sketch('f', 8, 1, 0);
        least.typeRow(0, 1, 40);
        least.addTyped(0, 1);
        Check.same("all bits", 8, least.ones(0));
        Check.same("any may be", true, least.may(0, 65535));
    }

    private static void registers() {
        // The hash of 0 by 0 is 0: 32 zeros, and 20 at most.
        Sketchery room = Check.room('d', 4, 0, 0, 0);
        Check.same("20 at most", 20, room.register(0, 0));
        for (int i = 1; i < 4; i++) {
            Check.same("0 at first", 0, room.register(0, i));
        }
        // 935966571 = 0x37C9B36B: two zeros from the top, and the lowest bits 01011.
        Sketchery one = Check.room('d', 32, 0, 0, 1);
        Check.same("1 and two zeros", 3, one.register(0, 11));
        Check.same("the others", 0, one.register(0, 3));
        Sketchery few = Check.room('d', 4, 0, 0, 1);
        Check.same("two bits tell it", 3, few.register(0, 3));
        int[] due = new int[64];
        Sketchery many = new Sketchery();
        many.sketch('d', 64, 0, 9);
        for (int item = 0; item < 520; item++) {
            int hash = PlainRoom.hash(item, 9);
            int value = Math.min(20, 1 + Integer.numberOfLeadingZeros(hash));
            due[hash & 63] = Math.max(due[hash & 63], value);
            if (item % 40 == 0) {
                many.wipe();
                many.typeRow(item, 1, 40);
                many.addTyped(0, 7);
            }
        }
        for (int i = 0; i < 64; i++) {
            Check.same("register " + i, due[i], many.register(0, i));
        }
        Check.same("sound", true, many.isSound());
    }

    private static void estimate() {
        Check.same("nothing seen", 0.7 * 4 * 4 / 4.0, Check.room('d', 4, 0, 0).distinct(0));
        Check.same("nothing in 64", 0.7 * 64.0 * 64.0 / 64.0, Check.room('d', 64, 0, 0).distinct(0));
        double sum = 1.0 / 1048576.0 + 1.0 + 1.0 + 1.0;
        Check.same("one register of 20", 0.7 * 4.0 * 4.0 / sum, Check.room('d', 4, 0, 0, 0).distinct(0));
        sum = 1.0 / 1048576.0 + 1.0 + 1.0 + 1.0 / 8.0;
        Check.same("and one of 3", 0.7 * 4.0 * 4.0 / sum, Check.room('d', 4, 0, 0, 0, 1, 1).distinct(0));
    }

    private static void heavy() {
        Sketchery room = new Sketchery();
        room.sketch('h', 2, 0, 7);
        Check.same("none", 0L, room.count(0, 5));
        Check.same("no error", 0L, room.error(0));
        Check.add(room, 0, 10, 5);
        Check.add(room, 0, 4, 6);
        Check.add(room, 0, 1, 5);
        Check.same("5 has 11", 11L, room.count(0, 5));
        Check.add(room, 0, 3, 7);
        Check.same("3 taken from 5", 8L, room.count(0, 5));
        Check.same("3 taken from 6", 1L, room.count(0, 6));
        Check.same("nothing left of 7", 0L, room.count(0, 7));
        Check.same("error 3", 3L, room.error(0));
        Check.add(room, 0, 6, 8);
        Check.same("1 taken from 5", 7L, room.count(0, 5));
        Check.same("6 is free", 0L, room.count(0, 6));
        Check.same("5 left of 8", 5L, room.count(0, 8));
        Check.same("error 4", 4L, room.error(0));
        Check.add(room, 0, 5, 9);
        Check.same("2 left of 5", 2L, room.count(0, 5));
        Check.same("8 is free", 0L, room.count(0, 8));
        Check.same("nothing left of 9", 0L, room.count(0, 9));
        Check.add(room, 0, 1, 9);
        Check.same("9 gets the free one", 1L, room.count(0, 9));
        Check.same("error 9", 9L, room.error(0));
        Check.same("seen", 30L, room.seen(0));
        Check.same("sound", true, room.isSound());
    }

    private static void heavyOrder() {
        Sketchery room = new Sketchery();
        room.sketch('h', 4, 0, 0);
        Check.refuses("none", Check.NONE, () -> room.heavyAt(0, 0));
        Check.add(room, 0, 3, 50, 9, 30);
        Check.add(room, 0, 4, 60);
        int[] due = {60, 9, 30, 50};
        for (int i = 0; i < 4; i++) {
            Check.same("heavy " + i, due[i], room.heavyAt(0, i));
        }
        Check.add(room, 0, 2, 30);
        Check.same("30 goes ahead", 30, room.heavyAt(0, 0));
        for (int wrong : new int[] {-1, 4, 8, Integer.MIN_VALUE, Integer.MAX_VALUE}) {
            Check.refuses("index " + wrong, Check.NONE, () -> room.heavyAt(0, wrong));
        }
        Check.add(room, 0, 3, 1);
        Check.same("two are left", 60, room.heavyAt(0, 1));
        Check.refuses("a third", Check.NONE, () -> room.heavyAt(0, 2));
    }

    private static void rows() {
        int seed = 65534;
        Sketchery room = new Sketchery();
        room.sketch('c', 5, 3, seed);
        Check.same("nothing", 0L, room.count(0, 1));
        long[][] due = new long[3][5];
        for (int item = 0; item < 12; item++) {
            Check.add(room, 0, item + 1, item);
            for (int row = 0; row < 3; row++) {
                due[row][place(item, seed + row, 5)] += item + 1;
            }
        }
        for (int item = 0; item < 30; item++) {
            long least = Long.MAX_VALUE;
            for (int row = 0; row < 3; row++) {
                least = Math.min(least, due[row][place(item, seed + row, 5)]);
            }
            Check.same("count " + item, least, room.count(0, item));
            Check.same("never too small", true, item > 11 || least >= item + 1);
            for (int row = 0; row < 3; row++) {
                Check.same("excess", due[row][place(item, seed + row, 5)] - least, room.excess(0, row, item));
            }
        }
        for (int wrong : new int[] {-1, 3, 6, Integer.MIN_VALUE, Integer.MAX_VALUE}) {
            Check.refuses("row " + wrong, Check.NONE, () -> room.excess(0, wrong, 1));
            Check.refuses("item ahead of row " + wrong, Check.ARGUMENT, () -> room.excess(0, wrong, -1));
        }
        Check.same("sound", true, room.isSound());
    }

    private static void refusals() {
        Sketchery room = Check.roomOfAllKinds();
        for (int sketch = 0; sketch < 9; sketch++) {
            int at = sketch;
            char kind = room.kind(at);
            if (kind != 'f') {
                Check.refuses(kind + " may", Check.UNSUPPORTED, () -> room.may(at, 0));
                Check.refuses(kind + " ones", Check.UNSUPPORTED, () -> room.ones(at));
            }
            if (kind != 'd') {
                Check.refuses(kind + " register", Check.UNSUPPORTED, () -> room.register(at, 99));
                Check.refuses(kind + " distinct", Check.UNSUPPORTED, () -> room.distinct(at));
            }
            if (kind != 'h') {
                Check.refuses(kind + " heavyAt", Check.UNSUPPORTED, () -> room.heavyAt(at, -1));
            }
            if (kind != 'h' && kind != 'c') {
                Check.refuses(kind + " count", Check.UNSUPPORTED, () -> room.count(at, 0));
            }
            if (kind != 'h' && kind != 'q') {
                Check.refuses(kind + " error", Check.UNSUPPORTED, () -> room.error(at));
            }
            if (kind != 'c') {
                Check.refuses(kind + " excess", Check.UNSUPPORTED, () -> room.excess(at, -1, 0));
            }
            for (int wrong : Check.WRONG_ITEMS) {
                Check.refuses(kind + " may " + wrong, Check.ARGUMENT, () -> room.may(at, wrong));
                Check.refuses(kind + " count " + wrong, Check.ARGUMENT, () -> room.count(at, wrong));
                Check.refuses(kind + " excess " + wrong, Check.ARGUMENT, () -> room.excess(at, 0, wrong));
            }
        }
        for (int wrong : new int[] {-1, 8, 64, Integer.MIN_VALUE, Integer.MAX_VALUE}) {
            Check.refuses("register " + wrong, Check.NONE, () -> room.register(1, wrong));
        }
        for (int wrong : Check.WRONG_SKETCHES) {
            Check.refuses("may", Check.INDEX, () -> room.may(wrong, -1));
            Check.refuses("ones", Check.INDEX, () -> room.ones(wrong));
            Check.refuses("register", Check.INDEX, () -> room.register(wrong, -1));
            Check.refuses("distinct", Check.INDEX, () -> room.distinct(wrong));
            Check.refuses("count", Check.INDEX, () -> room.count(wrong, -1));
            Check.refuses("heavyAt", Check.INDEX, () -> room.heavyAt(wrong, -1));
            Check.refuses("error", Check.INDEX, () -> room.error(wrong));
            Check.refuses("excess", Check.INDEX, () -> room.excess(wrong, -1, -1));
        }
    }
}
