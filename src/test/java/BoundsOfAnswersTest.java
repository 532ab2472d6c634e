import java.math.BigInteger;

/** Promises 12 to 33 at their bounds: both ends of each range, nothing there yet, nothing left, all that may be. */
public final class BoundsOfAnswersTest {
    public static void main(String[] arguments) {
        may();
        ones();
        register();
        distinct();
        count();
        heavyAt();
        error();
        excess();
        rank();
        quantile();
        kept();
        keptAt();
        sampleAt();
        tick();
        within();
        bucketAt();
        leastAt();
        likeness();
        subtract();
        peeled();
        peeledAt();
        isClean();
        Check.end("BoundsOfAnswersTest");
    }

    private static Sketchery two(char kind, int size, int second, int seed) {
        Sketchery room = new Sketchery();
        room.sketch(kind, size, second, seed);
        room.sketch(kind, size, second, seed);
        return room;
    }

    private static void may() {
        Check.about("promise 12");
        Sketchery room = Check.room('f', 256, 8, 0);
        Check.range("item", 0, 65535, item -> room.may(0, item));
        Check.sketches("may", 1, sketch -> room.may(sketch, 0));
        Check.sketches("a wrong item comes second in may", 1, sketch -> room.may(sketch, 65536));
        for (int item : new int[] {0, 1, 65535}) {
            Check.same("nothing there yet, not even " + item, false, room.may(0, item));
            Check.add(room, 0, 1, item);
            Check.same("there may be " + item, true, room.may(0, item));
        }
        Sketchery full = Check.room('f', 8, 1, 0);
        full.typeRow(0, 1, 40);
        full.addTyped(0, 1);
        for (int item = 0; item < 65536; item += 1337) {
            Check.same("all bits are set, so there may be " + item, true, full.may(0, item));
        }
    }

    private static void ones() {
        Check.about("promise 13");
        for (int bits : new int[] {8, 63, 64, 65, 128, 256}) {
            Sketchery room = Check.room('f', bits, 8, 65535);
            Check.same("none of " + bits, 0, room.ones(0));
            for (int i = 0; i < 160; i++) {
                room.wipe();
                room.typeRow(i * 40, 1, 40);
                room.addTyped(0, 1);
            }
            Check.same("all of " + bits, bits, room.ones(0));
            Check.sketches("ones", 1, room::ones);
        }
    }

    private static void register() {
        Check.about("promise 14");
        for (int size = 4; size <= 64; size *= 2) {
            Sketchery room = Check.room('d', size, 0, 1);
            for (int i = 0; i < size; i++) {
                Check.same("0 at first", 0, room.register(0, i));
            }
            Check.elements("register", size, index -> room.register(0, index));
            Check.sketches("register", 1, sketch -> room.register(sketch, 0));
            Check.sketches("a wrong index comes second in register", 1, sketch -> room.register(sketch, -1));
        }
    }

    private static void distinct() {
        Check.about("promise 15");
        for (int size = 4; size <= 64; size *= 2) {
            Sketchery room = Check.room('d', size, 0, 1);
            Check.same("nothing was seen by " + size, 0.7 * size * size / size, room.distinct(0));
            Check.sketches("distinct", 1, room::distinct);
            for (int i = 0; i < 100; i++) {
                room.wipe();
                room.typeRow(i * 600, 15, 40);
                room.addTyped(0, 1);
            }
            double sum = 0.0;
            for (int i = 0; i < size; i++) {
                int register = room.register(0, i);
                Check.same("all registers are above 0", true, register > 0 && register <= 20);
                sum += 1.0 / (1 << register);
            }
            Check.same("4000 were seen by " + size, 0.7 * size * size / sum, room.distinct(0));
        }
    }

    private static void count() {
        Check.about("promise 16");
        for (char kind : "hc".toCharArray()) {
            Sketchery room = Check.room(kind, 8, kind == 'c' ? 6 : 0, 0);
            Check.range("item of '" + kind + "'", 0, 65535, item -> room.count(0, item));
            Check.sketches("count", 1, sketch -> room.count(sketch, 0));
            Check.sketches("a wrong item comes second in count", 1, sketch -> room.count(sketch, -1));
            Check.same("'" + kind + "' nothing yet of 0", 0L, room.count(0, 0));
            Check.same("'" + kind + "' nothing yet of 65535", 0L, room.count(0, 65535));
            Check.add(room, 0, 1, 0);
            Check.add(room, 0, 1000, 65535);
            Check.same("'" + kind + "' the least weight", 1L, room.count(0, 0));
            Check.same("'" + kind + "' the greatest weight", 1000L, room.count(0, 65535));
        }
        Sketchery room = Check.room('h', 1, 0, 0, 5);
        Check.same("one without a counter", 0L, room.count(0, 4));
        Check.same("one with a counter", 1L, room.count(0, 5));
        Check.add(room, 0, 1, 4);
        Check.same("one whose counter was freed", 0L, room.count(0, 5));
        Check.same("one of which nothing was left", 0L, room.count(0, 4));
    }

    private static void heavyAt() {
        Check.about("promise 17");
        for (int size = 1; size <= 8; size++) {
            Sketchery room = Check.room('h', size, 0, 0);
            Check.sketches("heavyAt", 1, sketch -> room.heavyAt(sketch, 0));
            Check.sketches("a wrong index comes second in heavyAt", 1, sketch -> room.heavyAt(sketch, -1));
            for (int used = 0; used <= size; used++) {
                Check.elements(used + " of " + size + " counters in use,", used, index -> room.heavyAt(0, index));
                if (used < size) {
                    Check.add(room, 0, 2, 100 - used);
                }
            }
            for (int i = 0; i < size; i++) {
                Check.same("of like counts, lower items first", 101 - size + i, room.heavyAt(0, i));
            }
            Check.add(room, 0, 2, 7);
            Check.elements("nothing left of " + size + " counters,", 0, index -> room.heavyAt(0, index));
        }
        Sketchery ends = Check.room('h', 3, 0, 0, 65535, 0, 0, 1);
        Check.same("the greatest count", 0, ends.heavyAt(0, 0));
        Check.same("the lower item of like ones", 1, ends.heavyAt(0, 1));
        Check.same("the last one", 65535, ends.heavyAt(0, 2));
        Check.add(ends, 0, 3, 65535);
        Check.same("the greatest count, of the greatest item", 65535, ends.heavyAt(0, 0));
        Check.same("the next one", 0, ends.heavyAt(0, 1));
        Check.same("the least one", 1, ends.heavyAt(0, 2));
    }

    private static void error() {
        Check.about("promise 18");
        Sketchery heavy = Check.room('h', 1, 0, 0);
        Check.same("'h' no error at first", 0L, heavy.error(0));
        Check.add(heavy, 0, 1000, 5);
        Check.same("'h' no error of a full one", 0L, heavy.error(0));
        Check.add(heavy, 0, 999, 6);
        Check.same("'h' what was taken", 999L, heavy.error(0));
        Check.sketches("error", 1, heavy::error);
        Sketchery quantiles = Check.room('q', 16, 0, 0);
        Check.same("'q' no error at first", 0L, quantiles.error(0));
        quantiles.typeRow(0, 1, 16);
        quantiles.addTyped(0, 1);
        Check.same("'q' no error of a full level", 0L, quantiles.error(0));
        Check.add(quantiles, 0, 1, 3);
        Check.same("'q' one compaction of the level 0", 1L, quantiles.error(0));
    }

    private static void excess() {
        Check.about("promise 19");
        for (int rows = 1; rows <= 6; rows++) {
            int second = rows;
            Sketchery room = Check.room('c', 2, rows, 65535);
            Check.elements("row of " + rows, rows, row -> room.excess(0, row, 0));
            Check.range("item", 0, 65535, item -> room.excess(0, second - 1, item));
            Check.sketches("excess", 1, sketch -> room.excess(sketch, 0, 0));
            Check.sketches("a wrong item comes second in excess", 1, sketch -> room.excess(sketch, 0, -1));
            Check.refuses("a wrong row comes behind a wrong item", Check.ARGUMENT, () -> room.excess(0, -1, -1));
            Check.refuses("a wrong row comes behind a wrong item", Check.ARGUMENT, () -> room.excess(0, second, 65536));
            Check.same("nothing there yet", 0L, room.excess(0, 0, 0));
            Check.add(room, 0, 1000, 0, 1, 2, 3, 65535);
            long least = Long.MAX_VALUE;
            for (int row = 0; row < rows; row++) {
                least = Math.min(least, room.excess(0, row, 65535));
            }
            Check.same("0 in the row of its count", 0L, least);
        }
    }

    private static void rank() {
        Check.about("promise 20");
        Sketchery room = Check.room('q', 2, 0, 0);
        Check.range("item", 0, 65535, item -> room.rank(0, item));
        Check.sketches("rank", 1, sketch -> room.rank(sketch, 0));
        Check.sketches("a wrong item comes second in rank", 1, sketch -> room.rank(sketch, 65536));
        Check.same("nothing there yet", 0L, room.rank(0, 65535));
        Check.add(room, 0, 1, 0, 65535);
        Check.same("none is lower than 0", 0L, room.rank(0, 0));
        Check.same("0 is lower than 1", 1L, room.rank(0, 1));
        Check.same("65535 is not lower than itself", 1L, room.rank(0, 65535));
        Check.add(room, 0, 1, 65535);
        // 0 65535 65535: the last stays, 0 goes to the level 1 and stands for two.
        Check.same("0 stands for two", 2L, room.rank(0, 65535));
    }

    private static void quantile() {
        Check.about("promise 21");
        Sketchery room = Check.room('q', 2, 0, 0);
        Check.refuses("nothing was seen", Check.NONE, () -> room.quantile(0, 0));
        Check.refuses("nothing was seen", Check.NONE, () -> room.quantile(0, 100));
        for (int share : new int[] {-1, 101, Integer.MIN_VALUE, Integer.MAX_VALUE}) {
            Check.refuses("a share of " + share + " comes first", Check.ARGUMENT, () -> room.quantile(0, share));
        }
        Check.sketches("quantile", 1, sketch -> room.quantile(sketch, 0));
        Check.sketches("a wrong share comes second in quantile", 1, sketch -> room.quantile(sketch, 101));
        room.addTyped(0, 1);
        Check.refuses("nothing was added", Check.NONE, () -> room.quantile(0, 50));
        Check.add(room, 0, 1, 65535);
        Check.range("share", 0, 100, share -> room.quantile(0, share));
        Check.same("the one item, at 0", 65535, room.quantile(0, 0));
        Check.same("the one item, at 100", 65535, room.quantile(0, 100));
        Check.add(room, 0, 1, 0);
        Check.same("the least one", 0, room.quantile(0, 0));
        Check.same("50 hundredths of two are reached by one", 0, room.quantile(0, 50));
        Check.same("51 are not", 65535, room.quantile(0, 51));
        Check.same("the greatest one", 65535, room.quantile(0, 100));
        Sketchery three = Check.room('q', 4, 0, 0, 30, 10, 20);
        int[] shares = {0, 33, 34, 66, 67, 100};
        int[] due = {10, 10, 20, 20, 30, 30};
        for (int i = 0; i < shares.length; i++) {
            Check.same("of three, the share " + shares[i], due[i], three.quantile(0, shares[i]));
        }
        Sketchery merged = two('q', 2, 0, 0);
        merged.merge(0, 1);
        Check.refuses("nothing was merged", Check.NONE, () -> merged.quantile(0, 50));
        Check.add(merged, 1, 1, 7);
        merged.merge(0, 1);
        Check.same("7 was merged", 7, merged.quantile(0, 50));
    }

    private static void kept() {
        Check.about("promise 22");
        for (int size = 2; size <= 16; size += 2) {
            Sketchery room = Check.room('q', size, 0, 0);
            for (int level : new int[] {0, 1, 31, 32, 63, 64, 65536, Integer.MAX_VALUE}) {
                Check.same("nothing yet on " + level, 0, room.kept(0, level));
            }
            for (int level : new int[] {-1, -2, Integer.MIN_VALUE}) {
                Check.refuses("level " + level, Check.ARGUMENT, () -> room.kept(0, level));
            }
            Check.sketches("kept", 1, sketch -> room.kept(sketch, 0));
            Check.sketches("a wrong level comes second in kept", 1, sketch -> room.kept(sketch, -1));
            room.typeRow(0, 1, size);
            room.addTyped(0, 1);
            Check.same("a full level", size, room.kept(0, 0));
            Check.same("nothing above it", 0, room.kept(0, 1));
            Check.add(room, 0, 1, 5);
            Check.same("the greatest one stays", 1, room.kept(0, 0));
            Check.same("half of the others", size / 2, room.kept(0, 1));
            Check.same("0 above all", 0, room.kept(0, 2));
        }
    }

    private static void keptAt() {
        Check.about("promise 23");
        Sketchery room = Check.room('q', 16, 0, 0);
        Check.elements("of the level 0, with nothing,", 0, index -> room.keptAt(0, 0, index));
        Check.sketches("keptAt", 1, sketch -> room.keptAt(sketch, 0, 0));
        Check.sketches("a wrong level comes second in keptAt", 1, sketch -> room.keptAt(sketch, -1, -1));
        room.typeRow(65535, 65535, 16);
        room.addTyped(0, 1);
        Check.elements("of the full level 0", 16, index -> room.keptAt(0, 0, index));
        for (int i = 0; i < 16; i++) {
            Check.same("rising, at " + i, 65520 + i, room.keptAt(0, 0, i));
        }
        Check.add(room, 0, 1, 0);
        Check.elements("of the level 0", 1, index -> room.keptAt(0, 0, index));
        Check.elements("of the level 1", 8, index -> room.keptAt(0, 1, index));
        for (int level : new int[] {-1, 2, 16, 64, 512, Integer.MIN_VALUE, Integer.MAX_VALUE}) {
            Check.elements("of the level " + level, 0, index -> room.keptAt(0, level, index));
        }
        Check.same("at even places", 0, room.keptAt(0, 1, 0));
        Check.same("the last of these", 65533, room.keptAt(0, 1, 7));
        Check.same("the greatest one stays", 65535, room.keptAt(0, 0, 0));
    }

    private static void sampleAt() {
        Check.about("promise 24");
        for (int size = 1; size <= 10; size++) {
            Sketchery room = Check.room('s', size, 0, 65535);
            Check.sketches("sampleAt", 1, sketch -> room.sampleAt(sketch, 0));
            Check.sketches("a wrong place comes second in sampleAt", 1, sketch -> room.sampleAt(sketch, -1));
            for (int filled = 0; filled <= size; filled++) {
                Check.elements(filled + " of " + size + " places,", filled, index -> room.sampleAt(0, index));
                Check.add(room, 0, 1, 65535 - filled);
            }
            Check.elements("a full sample of " + size + ",", size, index -> room.sampleAt(0, index));
        }
    }

    private static void tick() {
        Check.about("promise 25");
        Check.range("ticks", 1, 2000, ticks -> new Sketchery().tick(ticks));
        Sketchery room = new Sketchery();
        for (int i = 1; i < 50; i++) {
            Check.same("the time", i * 2000, room.tick(2000));
        }
        Check.refuses("100000 is above the end", Check.STATE, () -> room.tick(2000));
        Check.same("one less", 99997, room.tick(1997));
        Check.refuses("one above the end", Check.STATE, () -> room.tick(3));
        Check.refuses("far above the end", Check.STATE, () -> room.tick(2000));
        Check.same("one ahead of the end", 99998, room.tick(1));
        Check.refuses("two are one too many", Check.STATE, () -> room.tick(2));
        Check.same("the time at its end", 99999, room.tick(1));
        Check.refuses("none is left", Check.STATE, () -> room.tick(1));
        Check.refuses("0 comes first", Check.ARGUMENT, () -> room.tick(0));
        Check.refuses("2001 come first", Check.ARGUMENT, () -> room.tick(2001));
        Check.refuses("an int's end comes first", Check.ARGUMENT, () -> room.tick(Integer.MAX_VALUE));
        room.sketch('w', 1, 1, 0);
        Check.add(room, 0, 1, 4);
        Check.same("an item at the last time", 1, room.within(0));
        Check.refuses("a refused tick", Check.STATE, () -> room.tick(1));
        Check.same("lets no bucket go", 1, room.within(0));
    }

    private static void within() {
        Check.about("promise 26");
        Sketchery room = Check.room('w', 1000, 4, 0);
        Check.same("nothing there yet", 0, room.within(0));
        Check.sketches("within", 1, room::within);
        int[] due = {1, 2, 3, 4, 4, 5, 6, 7, 8, 9};
        for (int each : due) {
            Check.add(room, 0, 1, 9);
            Check.same("less half of the oldest one's, cut", each, room.within(0));
        }
        room.tick(999);
        Check.same("one tick ahead of the end", 9, room.within(0));
        room.tick(1);
        Check.same("nothing left", 0, room.within(0));
    }

    private static void bucketAt() {
        Check.about("promise 27");
        Sketchery room = Check.room('w', 1, 4, 0);
        Check.elements("with nothing, bucket", 0, index -> room.bucketAt(0, index));
        Check.sketches("bucketAt", 1, sketch -> room.bucketAt(sketch, 0));
        Check.sketches("a wrong index comes second in bucketAt", 1, sketch -> room.bucketAt(sketch, -1));
        for (int used = 1; used <= 4; used++) {
            Check.add(room, 0, 1, 65535);
            Check.elements("as many as may be of a size, bucket", used, index -> room.bucketAt(0, index));
        }
        Check.add(room, 0, 1, 0);
        Check.elements("one more than may be of a size, bucket", 4, index -> room.bucketAt(0, index));
        Check.same("the oldest one first", 2, room.bucketAt(0, 0));
        Check.same("the youngest one last", 1, room.bucketAt(0, 3));
        room.tick(1);
        Check.elements("nothing left, bucket", 0, index -> room.bucketAt(0, index));
    }

    private static void leastAt() {
        Check.about("promise 28");
        for (int size : new int[] {1, 2, 15, 16}) {
            Sketchery room = two('m', size, 0, 65535);
            Check.elements("nothing was seen, hash", 0, index -> room.leastAt(0, index));
            Check.sketches("leastAt", 2, sketch -> room.leastAt(sketch, 0));
            Check.sketches("a wrong index comes second in leastAt", 2, sketch -> room.leastAt(sketch, -1));
            room.addTyped(0, 1);
            room.merge(0, 1);
            Check.elements("nothing was added or merged, hash", 0, index -> room.leastAt(0, index));
            Check.add(room, 1, 1, 0);
            Check.elements("of as many, hash", size, index -> room.leastAt(1, index));
            room.merge(0, 1);
            Check.elements("merged, hash", size, index -> room.leastAt(0, index));
        }
    }

    private static void likeness() {
        Check.about("promise 29");
        for (int size : new int[] {1, 16}) {
            Sketchery room = two('m', size, 0, 0);
            room.sketch('m', size, 0, 1);
            room.sketch('m', 17 - size, 0, 0);
            room.sketch('f', 16, 1, 0);
            Check.same("none and none are the same", size, room.likeness(0, 1));
            Check.same("none, in one alone", size, room.likeness(0, 0));
            Check.add(room, 0, 1, 0);
            Check.same("a hash and none are not, not even the hash 0", 0, room.likeness(0, 1));
            Check.same("nor the other way", 0, room.likeness(1, 0));
            Check.same("itself", size, room.likeness(0, 0));
            Check.add(room, 1, 1, 0);
            Check.same("the same item", size, room.likeness(0, 1));
            for (int other = 2; other <= 4; other++) {
                int at = other;
                Check.refuses("another make behind", Check.UNSUPPORTED, () -> room.likeness(0, at));
                Check.refuses("another make ahead", Check.UNSUPPORTED, () -> room.likeness(at, 0));
            }
            Check.refuses("itself, of another kind", Check.UNSUPPORTED, () -> room.likeness(4, 4));
            Check.sketches("likeness, ahead,", 5, sketch -> room.likeness(sketch, 0));
            Check.sketches("likeness, behind,", 5, sketch -> room.likeness(0, sketch));
            Check.sketches("likeness, behind another kind,", 5, sketch -> room.likeness(4, sketch));
        }
    }

    private static void subtract() {
        Check.about("promise 30");
        for (int cells : new int[] {3, 60}) {
            Sketchery room = two('i', cells, 0, 65535);
            room.sketch('i', cells, 0, 1);
            room.sketch('i', 63 - cells, 0, 65535);
            room.sketch('f', 60, 1, 65535);
            Check.same("nothing from nothing", 0, room.subtract(0, 1));
            Check.add(room, 1, 1, 0);
            Check.same("the item 0 from nothing", 3, room.subtract(0, 1));
            Check.same("nothing was seen by it", 0L, room.seen(0));
            Check.add(room, 0, 1, 0, 0);
            Check.same("the item 0 from the item 0", 0, room.subtract(0, 1));
            Check.same("the other one stays", 1, room.peeled(1, true));
            Check.same("two were seen", 2L, room.seen(0));
            Check.refuses("itself", Check.UNSUPPORTED, () -> room.subtract(0, 0));
            for (int other = 2; other <= 4; other++) {
                int at = other;
                Check.refuses("another make behind", Check.UNSUPPORTED, () -> room.subtract(0, at));
                Check.refuses("another make ahead", Check.UNSUPPORTED, () -> room.subtract(at, 0));
            }
            Check.refuses("itself, of another kind", Check.UNSUPPORTED, () -> room.subtract(4, 4));
            Check.sketches("subtract, ahead,", 5, sketch -> room.subtract(sketch, 0));
            Check.sketches("subtract, behind,", 5, sketch -> room.subtract(0, sketch));
            Check.sketches("subtract, both,", 5, sketch -> room.subtract(sketch, sketch));
            Check.sketches("subtract, behind another kind,", 5, sketch -> room.subtract(4, sketch));
        }
        Sketchery full = two('i', 60, 0, 3);
        for (int i = 0; i < 10; i++) {
            full.wipe();
            full.typeRow(i * 40, 1, 40);
            full.addTyped(0, 1);
        }
        Check.same("all cells are not empty", 60, full.subtract(0, 1));
        full.merge(1, 0);
        Check.same("all cells are empty", 0, full.subtract(0, 1));
    }

    private static void peeled() {
        Check.about("promise 31");
        for (boolean isThere : new boolean[] {true, false}) {
            Sketchery room = two('i', 3, 0, 65535);
            Check.same("nothing there yet", 0, room.peeled(0, isThere));
            Check.sketches("peeled", 2, sketch -> room.peeled(sketch, isThere));
            Check.add(room, isThere ? 0 : 1, 1, 65535);
            room.subtract(0, 1);
            Check.same("one", 1, room.peeled(0, isThere));
            Check.same("none of the others", 0, room.peeled(0, !isThere));
            Check.add(room, isThere ? 1 : 0, 1, 65535);
            if (isThere) {
                room.subtract(0, 1);
            }
            Check.same("nothing left", 0, room.peeled(0, isThere));
            Check.same("nothing left of the others", 0, room.peeled(0, !isThere));
        }
    }

    private static void peeledAt() {
        Check.about("promise 32");
        Sketchery room = two('i', 60, 0, 1);
        Check.elements("nothing there yet, there", 0, index -> room.peeledAt(0, true, index));
        Check.elements("nothing there yet, lacking", 0, index -> room.peeledAt(0, false, index));
        Check.sketches("peeledAt", 2, sketch -> room.peeledAt(sketch, true, 0));
        Check.sketches("a wrong index comes second in peeledAt", 2, sketch -> room.peeledAt(sketch, false, -1));
        Check.add(room, 0, 1, 0, 65535, 5);
        Check.add(room, 1, 1, 6, 7);
        room.subtract(0, 1);
        Check.elements("three there", 3, index -> room.peeledAt(0, true, index));
        Check.elements("two lacking", 2, index -> room.peeledAt(0, false, index));
        int sum = 0;
        for (int i = 0; i < 3; i++) {
            sum += room.peeledAt(0, true, i);
        }
        Check.same("those there", 65540, sum);
        Check.same("those lacking", 13, room.peeledAt(0, false, 0) + room.peeledAt(0, false, 1));
    }

    private static void isClean() {
        Check.about("promise 33");
        Sketchery room = two('i', 3, 0, 0);
        Check.same("nothing there yet", true, room.isClean(0));
        Check.sketches("isClean", 2, room::isClean);
        Check.add(room, 0, 1, 0);
        Check.same("one item there", true, room.isClean(0));
        Check.same("and it stays", 1, room.peeled(0, true));
        Check.add(room, 0, 1, 1);
        Check.same("two items in each cell", false, room.isClean(0));
        Check.add(room, 1, 1, 1);
        room.subtract(0, 1);
        Check.same("one is left", true, room.isClean(0));
        Check.add(room, 1, 1, 0);
        room.subtract(0, 1);
        Check.same("one is lacking", true, room.isClean(0));
        Check.add(room, 0, 1, 1);
        Check.same("nothing left", true, room.isClean(0));
        Sketchery twins = Check.room('i', 60, 0, 0, 9, 9);
        Check.same("a count of 2", false, twins.isClean(0));
    }
}
