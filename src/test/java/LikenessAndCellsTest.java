/** Promises 28 to 33. */
public final class LikenessAndCellsTest {
    public static void main(String[] arguments) {
        leastHashes();
        likeness();
        subtract();
        peelOrder();
        peelTwins();
        peelLacking();
        refusals();
        Check.end("LikenessAndCellsTest");
    }

    private static void leastHashes() {
        Sketchery room = Check.room('m', 3, 0, 65535);
        Check.refuses("nothing seen", Check.NONE, () -> room.leastAt(0, 0));
        int[] items = {7, 5, 60000, 3};
        int[] due = {Integer.MAX_VALUE, Integer.MAX_VALUE, Integer.MAX_VALUE};
        for (int item : items) {
            Check.add(room, 0, 9, item);
            for (int i = 0; i < 3; i++) {
                due[i] = Math.min(due[i], PlainRoom.hash(item, 65535 + i));
                Check.same("least " + i, due[i], room.leastAt(0, i));
            }
        }
        for (int wrong : new int[] {-1, 3, 16, Integer.MIN_VALUE, Integer.MAX_VALUE}) {
            Check.refuses("index " + wrong, Check.NONE, () -> room.leastAt(0, wrong));
        }
        Check.same("a hash of 0", 0, Check.room('m', 1, 0, 0, 0).leastAt(0, 0));
    }

    private static void likeness() {
        Sketchery room = new Sketchery();
        room.sketch('m', 16, 0, 4);
        room.sketch('m', 16, 0, 4);
        room.sketch('m', 15, 0, 4);
        room.sketch('m', 16, 0, 5);
        Check.same("none and none", 16, room.likeness(0, 1));
        Check.add(room, 0, 1, 1, 2, 3, 4, 5, 6);
        Check.same("some and none", 0, room.likeness(0, 1));
        Check.same("none and some", 0, room.likeness(1, 0));
        Check.add(room, 1, 1, 4, 5, 6, 7, 8, 9);
        int due = 0;
        for (int i = 0; i < 16; i++) {
            due += room.leastAt(0, i) == room.leastAt(1, i) ? 1 : 0;
        }
        Check.same("some are the same", true, due > 0 && due < 16);
        Check.same("likeness", due, room.likeness(0, 1));
        Check.same("itself", 16, room.likeness(0, 0));
        Check.refuses("size", Check.UNSUPPORTED, () -> room.likeness(0, 2));
        Check.refuses("seed", Check.UNSUPPORTED, () -> room.likeness(3, 0));
        // The hash of 0 by 0 is 0, which is not none.
        Sketchery zero = new Sketchery();
        zero.sketch('m', 1, 0, 0);
        zero.sketch('m', 1, 0, 0);
        Check.add(zero, 0, 1, 0);
        Check.same("0 is not none", 0, zero.likeness(0, 1));
        Check.same("nor the same", false, zero.isSame(0, 1));
    }

    private static void subtract() {
        Sketchery room = new Sketchery();
        room.sketch('i', 60, 0, 1);
        room.sketch('i', 60, 0, 1);
        room.sketch('i', 57, 0, 1);
        room.sketch('i', 60, 0, 2);
        room.sketch('f', 60, 1, 1);
        Check.add(room, 0, 1, 10, 20, 30);
        Check.add(room, 1, 1, 10, 20, 30);
        Check.same("nothing is left", 0, room.subtract(0, 1));
        Check.same("the weight seen stays", 3L, room.seen(0));
        Check.same("the other one stays", 3L, room.seen(1));
        Check.same("the other one's items", 3, room.peeled(1, true));
        Check.same("clean", true, room.isClean(0));
        Check.add(room, 0, 1, 40);
        Check.same("three cells less nine", 3, room.peeled(1, true));
        int full = room.subtract(0, 1);
        Check.same("at most twelve", true, full <= 12 && full >= 3);
        Check.same("there", 1, room.peeled(0, true));
        Check.same("it is 40", 40, room.peeledAt(0, true, 0));
        Check.same("lacking", 3, room.peeled(0, false));
        Check.same("clean then", true, room.isClean(0));
        Check.refuses("itself", Check.UNSUPPORTED, () -> room.subtract(0, 0));
        Check.refuses("size", Check.UNSUPPORTED, () -> room.subtract(0, 2));
        Check.refuses("seed", Check.UNSUPPORTED, () -> room.subtract(0, 3));
        Check.refuses("kind", Check.UNSUPPORTED, () -> room.subtract(0, 4));
        Check.refuses("kind", Check.UNSUPPORTED, () -> room.subtract(4, 0));
        // Of a cell with the count 0, a sum may be left.
        Sketchery sums = new Sketchery();
        sums.sketch('i', 3, 0, 0);
        sums.sketch('i', 3, 0, 0);
        Check.add(sums, 0, 1, 1);
        Check.add(sums, 1, 1, 2);
        Check.same("counts are 0, sums are not", 3, sums.subtract(0, 1));
        Check.same("not clean", false, sums.isClean(0));
        Check.same("none there", 0, sums.peeled(0, true));
        // The hash of 0 by 3 more is not 0, nor is the count.
        Sketchery zero = new Sketchery();
        zero.sketch('i', 3, 0, 0);
        zero.sketch('i', 3, 0, 0);
        Check.add(zero, 1, 1, 0);
        Check.same("the item 0", 3, zero.subtract(0, 1));
        Check.same("lacks", 0, zero.peeledAt(0, false, 0));
    }

    /** The first cell of all is taken each time, so items come by their first cell where they are alone. */
    private static void peelOrder() {
        Sketchery room = Check.room('i', 60, 0, 1);
        int[] items = {0, 500, 65535, 12, 777};
        Check.add(room, 0, 1, items);
        Check.same("all five", 5, room.peeled(0, true));
        int[] cells = new int[60];
        for (int item : items) {
            for (int part = 0; part < 3; part++) {
                cells[ItemSums.cell(item, 1, 20, part)]++;
            }
        }
        boolean[] done = new boolean[items.length];
        for (int turn = 0; turn < items.length; turn++) {
            int best = -1;
            int least = 60;
            for (int i = 0; i < items.length; i++) {
                for (int part = 0; part < 3 && !done[i]; part++) {
                    int at = ItemSums.cell(items[i], 1, 20, part);
                    if (cells[at] == 1 && at < least) {
                        best = i;
                        least = at;
                    }
                }
            }
            done[best] = true;
            for (int part = 0; part < 3; part++) {
                cells[ItemSums.cell(items[best], 1, 20, part)]--;
            }
            Check.same("peeled " + turn, items[best], room.peeledAt(0, true, turn));
        }
        Check.same("the sketch stays", 5, room.peeled(0, true));
        Check.same("clean", true, room.isClean(0));
        for (int wrong : new int[] {-1, 5, 200, Integer.MIN_VALUE, Integer.MAX_VALUE}) {
            Check.refuses("index " + wrong, Check.NONE, () -> room.peeledAt(0, true, wrong));
        }
        Check.refuses("none lacks", Check.NONE, () -> room.peeledAt(0, false, 0));
    }

    private static void peelTwins() {
        Sketchery room = Check.room('i', 60, 0, 1, 9, 9);
        Check.same("a count of 2", 0, room.peeled(0, true));
        Check.same("not clean", false, room.isClean(0));
        Check.add(room, 0, 1, 9);
        Check.same("a count of 3", 0, room.peeled(0, true));
        Sketchery three = Check.room('i', 3, 0, 0, 4);
        Check.same("alone", 4, three.peeledAt(0, true, 0));
        Check.add(three, 0, 1, 5);
        Check.same("two in each", 0, three.peeled(0, true));
        // A count of 1 whose sum is of three items is not the hash of that sum.
        three.sketch('i', 3, 0, 0);
        Check.add(three, 1, 1, 6);
        three.subtract(0, 1);
        Check.same("not a hash of its sum", 0, three.peeled(0, true));
        Check.same("nor lacking", 0, three.peeled(0, false));
        Check.same("not clean", false, three.isClean(0));
        Sketchery none = Check.room('i', 3, 0, 0);
        Check.same("nothing to peel", 0, none.peeled(0, true));
        Check.same("clean", true, none.isClean(0));
    }

    private static void peelLacking() {
        Sketchery room = new Sketchery();
        room.sketch('i', 30, 0, 8);
        room.sketch('i', 30, 0, 8);
        Check.add(room, 1, 1, 100, 200);
        room.subtract(0, 1);
        Check.same("none there", 0, room.peeled(0, true));
        Check.same("two lack", 2, room.peeled(0, false));
        int sum = room.peeledAt(0, false, 0) + room.peeledAt(0, false, 1);
        Check.same("these two", 300, sum);
        Check.same("in the order of peeling", room.peeledAt(1, true, 0), room.peeledAt(0, false, 0));
        Check.refuses("none there", Check.NONE, () -> room.peeledAt(0, true, 0));
        Check.same("clean", true, room.isClean(0));
        Check.same("merged", 2L, room.merge(0, 1));
        Check.same("nothing is left", 0, room.peeled(0, false));
    }

    private static void refusals() {
        Sketchery room = Check.roomOfAllKinds();
        for (int sketch = 0; sketch < 9; sketch++) {
            int at = sketch;
            char kind = room.kind(at);
            if (kind != 'm') {
                Check.refuses(kind + " leastAt", Check.UNSUPPORTED, () -> room.leastAt(at, -1));
                Check.refuses(kind + " likeness", Check.UNSUPPORTED, () -> room.likeness(at, at));
                Check.refuses(kind + " likeness 7", Check.UNSUPPORTED, () -> room.likeness(7, at));
            }
            if (kind != 'i') {
                Check.refuses(kind + " peeled", Check.UNSUPPORTED, () -> room.peeled(at, true));
                Check.refuses(kind + " peeledAt", Check.UNSUPPORTED, () -> room.peeledAt(at, true, -1));
                Check.refuses(kind + " isClean", Check.UNSUPPORTED, () -> room.isClean(at));
            }
            Check.refuses(kind + " subtract", Check.UNSUPPORTED, () -> room.subtract(at, 8));
        }
        for (int wrong : Check.WRONG_SKETCHES) {
            Check.refuses("leastAt", Check.INDEX, () -> room.leastAt(wrong, -1));
            Check.refuses("likeness", Check.INDEX, () -> room.likeness(wrong, 0));
            Check.refuses("likeness", Check.INDEX, () -> room.likeness(0, wrong));
            Check.refuses("subtract", Check.INDEX, () -> room.subtract(wrong, 0));
            Check.refuses("subtract", Check.INDEX, () -> room.subtract(0, wrong));
            Check.refuses("subtract", Check.INDEX, () -> room.subtract(wrong, wrong));
            Check.refuses("peeled", Check.INDEX, () -> room.peeled(wrong, true));
            Check.refuses("peeledAt", Check.INDEX, () -> room.peeledAt(wrong, true, -1));
            Check.refuses("isClean", Check.INDEX, () -> room.isClean(wrong));
        }
    }
}
