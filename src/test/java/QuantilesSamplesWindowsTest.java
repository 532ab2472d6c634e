/** Promises 20 to 27. */
public final class QuantilesSamplesWindowsTest {
    public static void main(String[] arguments) {
        levels();
        rankAndQuantile();
        quantilesOfMany();
        sampleFills();
        sampleDraws();
        tick();
        window();
        windowAges();
        refusals();
        Check.end("QuantilesSamplesWindowsTest");
    }

    private static void levelIs(Sketchery room, int level, int... items) {
        Check.same("kept in " + level, items.length, room.kept(0, level));
        for (int i = 0; i < items.length; i++) {
            Check.same("item " + i + " of " + level, items[i], room.keptAt(0, level, i));
        }
        Check.refuses("no more", Check.NONE, () -> room.keptAt(0, level, items.length));
        Check.refuses("none ahead", Check.NONE, () -> room.keptAt(0, level, -1));
    }

    private static void levels() {
        Sketchery room = Check.room('q', 2, 0, 0);
        levelIs(room, 0);
        Check.add(room, 0, 1, 7, 3);
        levelIs(room, 0, 3, 7);
        Check.same("no error", 0L, room.error(0));
        Check.add(room, 0, 1, 5);
        // 3 5 7: 7 stays, 3 goes up, at the even place.
        levelIs(room, 0, 7);
        levelIs(room, 1, 3);
        Check.add(room, 0, 1, 1, 2);
        // 1 2 7: 7 stays, 2 goes up, at the odd place.
        levelIs(room, 0, 7);
        levelIs(room, 1, 2, 3);
        Check.same("error 2", 2L, room.error(0));
        Check.add(room, 0, 1, 9, 9);
        // 7 9 9: 9 stays, 7 goes up again; 2 3 7: 7 stays, 2 goes up.
        levelIs(room, 0, 9);
        levelIs(room, 1, 7);
        levelIs(room, 2, 2);
        levelIs(room, 3);
        Check.same("error 5", 5L, room.error(0));
        Check.same("kept above all", 0, room.kept(0, Integer.MAX_VALUE));
        Check.refuses("no level", Check.NONE, () -> room.keptAt(0, -1, 0));
        Check.refuses("no level", Check.NONE, () -> room.keptAt(0, Integer.MAX_VALUE, 0));
        Check.refuses("no level", Check.NONE, () -> room.keptAt(0, Integer.MIN_VALUE, 0));
        Check.refuses("no index", Check.NONE, () -> room.keptAt(0, 0, Integer.MAX_VALUE));
        Check.same("sound", true, room.isSound());
        evenCompaction();
    }

    /** By merging, a level gets an even number of items, and none stays. */
    private static void evenCompaction() {
        Sketchery room = Check.room('q', 2, 0, 0, 1, 4);
        room.sketch('q', 2, 0, 0);
        Check.add(room, 1, 1, 3, 2);
        Check.same("merged", 4L, room.merge(0, 1));
        levelIs(room, 0);
        levelIs(room, 1, 1, 3);
        Check.add(room, 0, 1, 1, 4);
        Check.same("merged", 8L, room.merge(0, 1));
        // The odd places 2 and 4 go up to 1 and 3: 1 2 3 4 is compacted, too.
        levelIs(room, 0);
        levelIs(room, 1);
        levelIs(room, 2, 1, 3);
        Check.same("error", 1L + 1L + 2L, room.error(0));
    }

    private static void rankAndQuantile() {
        Sketchery room = Check.room('q', 4, 0, 0);
        Check.same("nothing below", 0L, room.rank(0, 65535));
        Check.refuses("nothing seen", Check.NONE, () -> room.quantile(0, 50));
        Check.refuses("share ahead of nothing seen", Check.ARGUMENT, () -> room.quantile(0, -1));
        Check.add(room, 0, 1, 40, 10, 30, 20, 50);
        // 50 stays; 10 and 30 stand for two each.
        levelIs(room, 0, 50);
        levelIs(room, 1, 10, 30);
        int[] items = {0, 10, 11, 30, 31, 50, 51, 65535};
        long[] ranks = {0, 0, 2, 2, 4, 4, 5, 5};
        for (int i = 0; i < items.length; i++) {
            Check.same("rank of " + items[i], ranks[i], room.rank(0, items[i]));
        }
        int[] shares = {0, 1, 40, 41, 80, 81, 100};
        int[] due = {10, 10, 10, 30, 30, 50, 50};
        for (int i = 0; i < shares.length; i++) {
            Check.same("quantile of " + shares[i], due[i], room.quantile(0, shares[i]));
        }
        for (int wrong : new int[] {-1, 101, Integer.MIN_VALUE, Integer.MAX_VALUE}) {
            Check.refuses("share " + wrong, Check.ARGUMENT, () -> room.quantile(0, wrong));
        }
        Sketchery like = Check.room('q', 4, 0, 0, 0, 0, 0);
        Check.same("like items", 0, like.quantile(0, 100));
        Check.same("the item 0", 0, like.quantile(0, 0));
        Sketchery last = Check.room('q', 2, 0, 0, 65535);
        Check.same("the item 65535", 65535, last.quantile(0, 0));
        Check.same("not lower than itself", 0L, last.rank(0, 65535));
    }

    private static void quantilesOfMany() {
        Sketchery room = new Sketchery();
        room.sketch('q', 16, 0, 0);
        for (int i = 0; i < 60; i++) {
            room.wipe();
            room.typeRow(i * 997 % 65536, 31, 40);
            room.addTyped(0, 1);
        }
        Check.same("seen", 2400L, room.seen(0));
        int before = -1;
        for (int share = 0; share <= 100; share++) {
            int item = room.quantile(0, share);
            long upTo = item == 65535 ? 2400 : room.rank(0, item + 1);
            Check.same("enough", true, upTo * 100 >= 2400L * share);
            Check.same("least", true, share == 0 || room.rank(0, item) * 100 < 2400L * share);
            Check.same("rising", true, item >= before);
            before = item;
        }
        Check.same("sound", true, room.isSound());
    }

    private static void sampleFills() {
        Sketchery room = Check.room('s', 3, 0, 5);
        Check.refuses("none", Check.NONE, () -> room.sampleAt(0, 0));
        Check.add(room, 0, 9, 8, 7);
        Check.same("first", 8, room.sampleAt(0, 0));
        Check.same("second", 7, room.sampleAt(0, 1));
        for (int wrong : new int[] {-1, 2, 3, 10, Integer.MIN_VALUE, Integer.MAX_VALUE}) {
            Check.refuses("place " + wrong, Check.NONE, () -> room.sampleAt(0, wrong));
        }
    }

    private static void sampleDraws() {
        for (int seed : new int[] {0, 1, 7, 65535}) {
            Sketchery room = Check.room('s', 3, 0, seed);
            int[] due = new int[3];
            int z = seed;
            for (int n = 1; n <= 70; n++) {
                Check.add(room, 0, 1000, n * 11);
                int place = n - 1;
                if (n > 3) {
                    z = z * 1103515245 + 12345;
                    place = (z >>> 16) % n;
                }
                if (place < 3) {
                    due[place] = n * 11;
                }
                for (int i = 0; i < Math.min(n, 3); i++) {
                    Check.same("sample " + n + " " + i, due[i], room.sampleAt(0, i));
                }
            }
        }
    }

    private static void tick() {
        Sketchery room = new Sketchery();
        Check.same("one", 1, room.tick(1));
        Check.same("2000", 2001, room.tick(2000));
        for (int wrong : new int[] {0, 2001, -1, Integer.MIN_VALUE, Integer.MAX_VALUE}) {
            Check.refuses("ticks " + wrong, Check.ARGUMENT, () -> room.tick(wrong));
        }
        for (int i = 0; i < 48; i++) {
            room.tick(2000);
        }
        Check.refuses("100001", Check.STATE, () -> room.tick(2000));
        Check.refuses("100000", Check.STATE, () -> room.tick(1999));
        Check.same("99999", 99999, room.tick(1998));
        Check.refuses("100000", Check.STATE, () -> room.tick(1));
        Check.refuses("a wrong number first", Check.ARGUMENT, () -> room.tick(0));
    }

    private static void bucketsAre(Sketchery room, int... sizes) {
        int sum = 0;
        for (int i = 0; i < sizes.length; i++) {
            Check.same("bucket " + i, sizes[i], room.bucketAt(0, i));
            sum += sizes[i];
        }
        Check.refuses("no more", Check.NONE, () -> room.bucketAt(0, sizes.length));
        Check.refuses("none ahead", Check.NONE, () -> room.bucketAt(0, -1));
        Check.same("within", sizes.length == 0 ? 0 : sum - sizes[0] / 2, room.within(0));
        Check.same("sound", true, room.isSound());
    }

    private static void window() {
        Sketchery room = Check.room('w', 5, 1, 0);
        bucketsAre(room);
        int[][] due = {{1}, {2}, {2, 1}, {4}, {4, 1}, {4, 2}, {4, 2, 1}, {8}};
        for (int[] sizes : due) {
            Check.add(room, 0, 1000, 3);
            bucketsAre(room, sizes);
        }
        Sketchery three = Check.room('w', 5, 3, 0, 1, 1, 1, 1, 1, 1, 1, 1);
        bucketsAre(three, 2, 2, 2, 1, 1);
        Check.add(three, 0, 1, 2);
        Check.add(three, 0, 1, 2);
        bucketsAre(three, 4, 2, 2, 1, 1);
        Sketchery four = Check.room('w', 5, 4, 0, 1, 1, 1, 1, 1);
        bucketsAre(four, 2, 1, 1, 1);
        Check.refuses("far", Check.NONE, () -> four.bucketAt(0, Integer.MAX_VALUE));
    }

    private static void windowAges() {
        Sketchery room = new Sketchery();
        room.tick(100);
        room.sketch('w', 10, 2, 0);
        Check.add(room, 0, 1, 1, 2);
        room.tick(3);
        Check.add(room, 0, 1, 3);
        // Both of the time 100 became one of 2, at 100.
        bucketsAre(room, 2, 1);
        room.tick(3);
        Check.add(room, 0, 1, 4, 5);
        // The oldest two of 1, of 103 and 106, became one at 106.
        bucketsAre(room, 2, 2, 1);
        room.tick(3);
        bucketsAre(room, 2, 2, 1);
        room.tick(1);
        bucketsAre(room, 2, 1);
        room.tick(5);
        bucketsAre(room, 2, 1);
        room.tick(1);
        bucketsAre(room);
        Sketchery least = Check.room('w', 1, 2, 0, 5, 5);
        bucketsAre(least, 1, 1);
        least.sketch('w', 1000, 2, 0);
        Check.add(least, 1, 1, 5);
        least.tick(1);
        bucketsAre(least);
        Check.same("another window stays", 1, least.within(1));
        least.tick(998);
        Check.same("999 ticks ago", 1, least.within(1));
        least.tick(1);
        Check.same("1000 ticks ago", 0, least.within(1));
    }

    private static void refusals() {
        Sketchery room = Check.roomOfAllKinds();
        for (int sketch = 0; sketch < 9; sketch++) {
            int at = sketch;
            char kind = room.kind(at);
            if (kind != 'q') {
                Check.refuses(kind + " rank", Check.UNSUPPORTED, () -> room.rank(at, 0));
                Check.refuses(kind + " quantile", Check.UNSUPPORTED, () -> room.quantile(at, 0));
                Check.refuses(kind + " kept", Check.UNSUPPORTED, () -> room.kept(at, 0));
                Check.refuses(kind + " keptAt", Check.UNSUPPORTED, () -> room.keptAt(at, -1, -1));
            }
            if (kind != 's') {
                Check.refuses(kind + " sampleAt", Check.UNSUPPORTED, () -> room.sampleAt(at, -1));
            }
            if (kind != 'w') {
                Check.refuses(kind + " within", Check.UNSUPPORTED, () -> room.within(at));
                Check.refuses(kind + " bucketAt", Check.UNSUPPORTED, () -> room.bucketAt(at, -1));
            }
            for (int wrong : Check.WRONG_ITEMS) {
                Check.refuses(kind + " rank " + wrong, Check.ARGUMENT, () -> room.rank(at, wrong));
                Check.refuses(kind + " quantile " + wrong, Check.ARGUMENT, () -> room.quantile(at, wrong));
            }
            Check.refuses(kind + " kept -1", Check.ARGUMENT, () -> room.kept(at, -1));
            Check.refuses(kind + " kept least", Check.ARGUMENT, () -> room.kept(at, Integer.MIN_VALUE));
        }
        for (int wrong : Check.WRONG_SKETCHES) {
            Check.refuses("rank", Check.INDEX, () -> room.rank(wrong, -1));
            Check.refuses("quantile", Check.INDEX, () -> room.quantile(wrong, -1));
            Check.refuses("kept", Check.INDEX, () -> room.kept(wrong, -1));
            Check.refuses("keptAt", Check.INDEX, () -> room.keptAt(wrong, -1, -1));
            Check.refuses("sampleAt", Check.INDEX, () -> room.sampleAt(wrong, -1));
            Check.refuses("within", Check.INDEX, () -> room.within(wrong));
            Check.refuses("bucketAt", Check.INDEX, () -> room.bucketAt(wrong, -1));
        }
    }
}
