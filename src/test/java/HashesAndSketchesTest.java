/** Promises 1 to 11. */
public final class HashesAndSketchesTest {
    private static final int[] WRONG_SKETCHES = {-1, 1, 10, Integer.MIN_VALUE, Integer.MAX_VALUE};

    public static void main(String[] arguments) {
        newObject();
        hash();
        sketchRanges();
        sketchNumbers();
        addTyped();
        type();
        typeRow();
        wipe();
        mergeAnswers();
        mergeRefusals();
        kindAndSeen();
        isSameByMake();
        isSameByContent();
        isSameOfQuantiles();
        Check.end("HashesAndSketchesTest");
    }

    private static void newObject() {
        Sketchery room = new Sketchery();
        Check.same("no sketches", 7L, room.checksum());
        Check.refuses("no sketch 0", Check.INDEX, () -> room.seen(0));
        Check.same("nothing typed", 0, room.wipe());
        Check.same("time 0", 1, room.tick(1));
        Check.same("sound", true, room.isSound());
    }

    private static void hash() {
        Sketchery room = new Sketchery();
        Check.same("hash of 0", 0, room.hash(0, 0));
        Check.same("hash of 1", 935966571, room.hash(1, 0));
        // Worked out by the words of the document, step by step, in exact numbers.
        for (int item : new int[] {0, 1, 2, 1000, 32768, 65535}) {
            for (int seed : new int[] {0, 1, 7, 65535}) {
                Check.same("hash " + item + " " + seed, exactHash(item, seed), room.hash(item, seed));
            }
        }
        for (int wrong : Check.WRONG_ITEMS) {
            Check.refuses("hash of " + wrong, Check.ARGUMENT, () -> room.hash(wrong, 0));
            Check.refuses("hash by " + wrong, Check.ARGUMENT, () -> room.hash(0, wrong));
        }
    }

    private static int exactHash(long item, long seed) {
        long z = item * 0x9E3779B1L + seed * 0x85EBCA6BL & 0xFFFFFFFFL;
        z ^= z >> 15;
        z = java.math.BigInteger.valueOf(z).multiply(java.math.BigInteger.valueOf(0xC2B2AE35L)).longValue() & 0xFFFFFFFFL;
        z ^= z >> 13;
        return (int) z;
    }

    private static void takes(char kind, int size, int second) {
        Check.same(kind + " " + size + " " + second, 0, new Sketchery().sketch(kind, size, second, 0));
    }

    private static void refuses(char kind, int size, int second) {
        Check.refuses(kind + " " + size + " " + second, Check.ARGUMENT,
            () -> new Sketchery().sketch(kind, size, second, 0));
    }

    private static void sketchRanges() {
        range('f', 8, 256, 1, 8);
        range('c', 2, 64, 1, 6);
        range('w', 1, 1000, 1, 4);
        range('d', 4, 64, 0, 0);
        range('h', 1, 8, 0, 0);
        range('q', 2, 16, 0, 0);
        range('s', 1, 10, 0, 0);
        range('m', 1, 16, 0, 0);
        range('i', 3, 60, 0, 0);
        for (int size = 4; size <= 64; size++) {
            if (size == 4 || size == 8 || size == 16 || size == 32 || size == 64) {
                takes('d', size, 0);
            } else {
                refuses('d', size, 0);
            }
        }
        for (int size = 3; size <= 16; size += 2) {
            refuses('q', size, 0);
            takes('q', size - 1, 0);
        }
        for (int size = 3; size <= 60; size += 3) {
            takes('i', size, 0);
            refuses('i', size + 1, 0);
            refuses('i', size + 2, 0);
        }
        for (char kind = 0; kind < 300; kind++) {
            if ("fdhcqswmi".indexOf(kind) < 0) {
                refuses(kind, 8, 0);
                refuses(kind, 8, 1);
            }
        }
    }

    private static void range(char kind, int least, int greatest, int from, int to) {
        takes(kind, least, from);
        takes(kind, greatest, to);
        int[][] wrong = {
            {least - 1, from}, {greatest + 1, from}, {least, from - 1}, {least, to + 1}, {-least, from},
            {Integer.MIN_VALUE, from}, {Integer.MAX_VALUE, to}, {least, Integer.MIN_VALUE}, {least, Integer.MAX_VALUE}
        };
        for (int[] each : wrong) {
            refuses(kind, each[0], each[1]);
        }
        for (int seed : Check.WRONG_ITEMS) {
            Check.refuses(kind + " seed " + seed, Check.ARGUMENT,
                () -> new Sketchery().sketch(kind, least, from, seed));
        }
        Check.same(kind + " seed 65535", 0, new Sketchery().sketch(kind, least, from, 65535));
    }

    private static void sketchNumbers() {
        Sketchery room = new Sketchery();
        for (int i = 0; i < 10; i++) {
            Check.same("number", i, room.sketch('h', 1, 0, 0));
        }
        Check.refuses("an eleventh one", Check.STATE, () -> room.sketch('h', 1, 0, 0));
        Check.refuses("a wrong eleventh one", Check.ARGUMENT, () -> room.sketch('h', 0, 0, 0));
        Check.refuses("no kind", Check.ARGUMENT, () -> room.sketch('H', 1, 0, 0));
        Check.refuses("no number 10", Check.INDEX, () -> room.kind(10));
        Check.same("number 9", 'h', room.kind(9));
    }

    private static void addTyped() {
        Sketchery room = new Sketchery();
        room.sketch('h', 3, 0, 0);
        Check.same("nothing typed", 0, room.addTyped(0, 1));
        Check.same("nothing seen", 0L, room.seen(0));
        room.type(8);
        room.type(9);
        room.type(8);
        Check.same("three", 3, room.addTyped(0, 1000));
        Check.same("they stay typed", 3, room.addTyped(0, 1));
        Check.same("seen", 3003L, room.seen(0));
        Check.same("count", 2002L, room.count(0, 8));
        for (int wrong : new int[] {0, 1001, -1, Integer.MIN_VALUE, Integer.MAX_VALUE}) {
            Check.refuses("weight " + wrong, Check.ARGUMENT, () -> room.addTyped(0, wrong));
        }
        for (int wrong : WRONG_SKETCHES) {
            Check.refuses("sketch " + wrong, Check.INDEX, () -> room.addTyped(wrong, 1));
            Check.refuses("sketch first " + wrong, Check.INDEX, () -> room.addTyped(wrong, 0));
        }
        Check.same("nothing changed", 3003L, room.seen(0));
        room.sketch('f', 8, 1, 0);
        Check.refuses("a weight for 'f'", Check.ARGUMENT, () -> room.addTyped(1, 1001));
    }

    private static void type() {
        Sketchery room = new Sketchery();
        Check.same("first", 1, room.type(0));
        Check.same("second", 2, room.type(65535));
        for (int wrong : Check.WRONG_ITEMS) {
            Check.refuses("type " + wrong, Check.ARGUMENT, () -> room.type(wrong));
        }
        for (int i = 3; i <= 40; i++) {
            Check.same("type", i, room.type(i));
        }
        Check.refuses("a 41st", Check.STATE, () -> room.type(1));
        Check.refuses("a wrong 41st", Check.ARGUMENT, () -> room.type(-1));
        Check.same("forty", 40, room.wipe());
    }

    private static void typeRow() {
        Sketchery room = new Sketchery();
        room.sketch('s', 4, 0, 0);
        Check.same("row", 3, room.typeRow(65000, 500, 3));
        Check.same("row on", 4, room.typeRow(7, 65535, 1));
        room.addTyped(0, 1);
        int[] due = {65000, 65500, 464, 7};
        for (int i = 0; i < due.length; i++) {
            Check.same("typed " + i, due[i], room.sampleAt(0, i));
        }
        Check.refuses("37 more", Check.STATE, () -> room.typeRow(0, 0, 37));
        Check.same("nothing changed", 40, room.typeRow(0, 0, 36));
        Check.refuses("one more", Check.STATE, () -> room.typeRow(0, 0, 1));
        for (int wrong : Check.WRONG_ITEMS) {
            Check.refuses("first " + wrong, Check.ARGUMENT, () -> room.typeRow(wrong, 0, 1));
            Check.refuses("step " + wrong, Check.ARGUMENT, () -> room.typeRow(0, wrong, 1));
        }
        for (int wrong : new int[] {0, 41, -1, Integer.MIN_VALUE, Integer.MAX_VALUE}) {
            Check.refuses("many " + wrong, Check.ARGUMENT, () -> room.typeRow(0, 0, wrong));
        }
        Check.same("wipe", 40, room.wipe());
        Check.same("forty at once", 40, room.typeRow(65535, 65535, 40));
        room.sketch('s', 3, 0, 0);
        room.addTyped(1, 1);
        Check.same("a step back", true, room.isSame(1, 1));
    }

    private static void wipe() {
        Sketchery room = Check.room('c', 2, 1, 0);
        room.typeRow(5, 1, 5);
        Check.same("five", 5, room.wipe());
        Check.same("none", 0, room.wipe());
        Check.same("none to add", 0, room.addTyped(0, 1));
        Check.same("first again", 1, room.type(3));
    }

    /** Sketch 0 gets the items 1 to 4, sketch 1 the items 3 to 8, each with a weight. */
    private static Sketchery two(char kind, int size, int second) {
        Sketchery room = new Sketchery();
        room.sketch(kind, size, second, 3);
        room.sketch(kind, size, second, 3);
        Check.add(room, 0, 2, 1, 2, 3, 4);
        Check.add(room, 1, 3, 3, 4, 5, 6, 7, 8);
        return room;
    }

    private static void mergeAnswers() {
        String kinds = "fdcmi";
        int[] sizes = {64, 16, 8, 5, 30};
        int[] seconds = {3, 0, 4, 0, 0};
        for (int i = 0; i < kinds.length(); i++) {
            char kind = kinds.charAt(i);
            Sketchery room = two(kind, sizes[i], seconds[i]);
            room.sketch(kind, sizes[i], seconds[i], 3);
            Check.add(room, 2, 2, 1, 2, 3, 4);
            Check.add(room, 2, 3, 3, 4, 5, 6, 7, 8);
            long due = kind == 'c' ? 26 : 10;
            Check.same(kind + " merged", due, room.merge(0, 1));
            Check.same(kind + " seen", due, room.seen(0));
            Check.same(kind + " as if one had seen all", true, room.isSame(0, 2));
            Check.same(kind + " the other one stays", kind == 'c' ? 18L : 6L, room.seen(1));
            Check.same(kind + " sound", true, room.isSound());
        }
        heavyMerge();
        quantilesMerge();
    }

    private static void heavyMerge() {
        Sketchery room = new Sketchery();
        room.sketch('h', 2, 0, 0);
        room.sketch('h', 2, 0, 0);
        Check.add(room, 0, 10, 1);
        Check.add(room, 0, 4, 2);
        Check.add(room, 0, 1, 3);
        Check.add(room, 1, 7, 1);
        Check.add(room, 1, 5, 4);
        // 1: 9, 2: 3, lost 1; and 1: 7, 4: 5. All: 1: 16, 4: 5, 2: 3; 3 is taken away.
        Check.same("merged", 27L, room.merge(0, 1));
        Check.same("1", 13L, room.count(0, 1));
        Check.same("4", 2L, room.count(0, 4));
        Check.same("2", 0L, room.count(0, 2));
        Check.same("error", 4L, room.error(0));
        Check.same("the other one's error", 0L, room.error(1));
        Check.same("the other one's count", 7L, room.count(1, 1));
        Sketchery like = new Sketchery();
        like.sketch('h', 1, 0, 0);
        like.sketch('h', 1, 0, 0);
        Check.add(like, 0, 6, 1);
        Check.add(like, 1, 6, 2);
        Check.same("like counts", 12L, like.merge(0, 1));
        Check.refuses("both are taken away", Check.NONE, () -> like.heavyAt(0, 0));
        Check.same("6 lost", 6L, like.error(0));
        Check.same("the free one is got", 18L, like.merge(1, 0));
        Check.same("kept", 6L, like.count(1, 2));
        Check.same("the errors are summed", 6L, like.error(1));
    }

    private static void quantilesMerge() {
        Sketchery room = new Sketchery();
        room.sketch('q', 2, 0, 0);
        room.sketch('q', 2, 0, 0);
        Check.add(room, 0, 1, 5, 1, 9);
        Check.add(room, 1, 1, 4, 2, 6, 8, 7);
        // 0: [9] [1], next odd. 1: [6] [2] after three; [7] [2 8] after five (6 7 8: 8 stays, 7 goes up).
        Check.same("level 0", 8, room.keptAt(1, 0, 0));
        Check.same("level 1", 7, room.keptAt(1, 1, 1));
        Check.same("merged", 8L, room.merge(0, 1));
        // [8 9] and [1 2 7]: the latter is compacted, 7 stays, 1 goes up.
        Check.same("two stay", 2, room.kept(0, 0));
        Check.same("7 stays", 7, room.keptAt(0, 1, 0));
        Check.same("1 goes up", 1, room.keptAt(0, 2, 0));
        Check.same("errors are summed", 1L + 2L + 2L, room.error(0));
        Check.same("the other one stays", 2L, room.error(1));
        Check.same("sound", true, room.isSound());
    }

    private static void mergeRefusals() {
        for (char kind : "fdhcqswmi".toCharArray()) {
            int size = kind == 'i' ? 9 : 8;
            int second = kind == 'f' || kind == 'c' || kind == 'w' ? 1 : 0;
            Sketchery room = new Sketchery();
            room.sketch(kind, size, second, 0);
            room.sketch(kind, size, second, 0);
            room.sketch(kind, size, second, 1);
            room.sketch(kind == 'f' ? 'c' : 'f', 8, 1, 0);
            boolean isMerged = kind != 's' && kind != 'w';
            Object due = isMerged ? (Object) 0L : Check.UNSUPPORTED;
            Check.refuses(kind + " itself", Check.UNSUPPORTED, () -> room.merge(0, 0));
            Check.refuses(kind + " seed", Check.UNSUPPORTED, () -> room.merge(0, 2));
            Check.refuses(kind + " kind", Check.UNSUPPORTED, () -> room.merge(0, 3));
            Check.same(kind + " like", due, Check.outcome(() -> room.merge(0, 1)));
            for (int wrong : new int[] {-1, 4, Integer.MAX_VALUE, Integer.MIN_VALUE}) {
                Check.refuses(kind + " " + wrong, Check.INDEX, () -> room.merge(0, wrong));
                Check.refuses(wrong + " " + kind, Check.INDEX, () -> room.merge(wrong, 0));
                Check.refuses("both " + wrong, Check.INDEX, () -> room.merge(wrong, wrong));
            }
        }
        Sketchery room = new Sketchery();
        room.sketch('f', 8, 1, 0);
        room.sketch('f', 9, 1, 0);
        room.sketch('f', 8, 2, 0);
        Check.refuses("size", Check.UNSUPPORTED, () -> room.merge(0, 1));
        Check.refuses("second", Check.UNSUPPORTED, () -> room.merge(0, 2));
    }

    private static void kindAndSeen() {
        for (char kind : "fdhcqswmi".toCharArray()) {
            int second = kind == 'f' || kind == 'c' || kind == 'w' ? 1 : 0;
            Sketchery room = new Sketchery();
            room.sketch(kind, kind == 'i' ? 9 : 8, second, 0);
            Check.same("kind", kind, room.kind(0));
            Check.same(kind + " nothing", 0L, room.seen(0));
            Check.add(room, 0, 5, 1, 1, 2);
            Check.same(kind + " seen", kind == 'h' || kind == 'c' ? 15L : 3L, room.seen(0));
            for (int wrong : WRONG_SKETCHES) {
                Check.refuses("kind " + wrong, Check.INDEX, () -> room.kind(wrong));
                Check.refuses("seen " + wrong, Check.INDEX, () -> room.seen(wrong));
            }
        }
    }

    private static void isSameByMake() {
        Sketchery room = new Sketchery();
        room.sketch('f', 8, 1, 0);
        room.sketch('f', 8, 1, 0);
        room.sketch('f', 9, 1, 0);
        room.sketch('f', 8, 2, 0);
        room.sketch('f', 8, 1, 1);
        room.sketch('c', 8, 1, 0);
        Check.same("itself", true, room.isSame(0, 0));
        Check.same("like", true, room.isSame(0, 1));
        for (int other = 2; other <= 5; other++) {
            Check.same("other make " + other, false, room.isSame(0, other));
            Check.same("other make " + other, false, room.isSame(other, 0));
        }
        for (int wrong : new int[] {-1, 6, Integer.MAX_VALUE, Integer.MIN_VALUE}) {
            Check.refuses("isSame " + wrong, Check.INDEX, () -> room.isSame(0, wrong));
            Check.refuses(wrong + " isSame", Check.INDEX, () -> room.isSame(wrong, 0));
        }
    }

    private static void isSameByContent() {
        Check.same("bits, whatever was seen", true, same('f', 64, 2, new int[] {1}, new int[] {1, 1}));
        Check.same("other bits", false, same('f', 64, 2, new int[] {1}, new int[] {2}));
        Check.same("registers", true, same('d', 16, 0, new int[] {1, 2}, new int[] {2, 1, 2}));
        Check.same("other registers", false, same('d', 16, 0, new int[] {1}, new int[] {}));
        Check.same("counters", true, same('h', 3, 0, new int[] {1, 2, 2}, new int[] {2, 1, 2}));
        Check.same("other counts", false, same('h', 3, 0, new int[] {1, 2, 2}, new int[] {2, 1, 1}));
        Check.same("other items", false, same('h', 3, 0, new int[] {1, 2}, new int[] {1, 3}));
        Check.same("the first item alone", false, same('h', 3, 0, new int[] {1, 2}, new int[] {3, 2}));
        Check.same("the register 0 alone", false, same('d', 4, 0, new int[] {0}, new int[] {}, 0));
        Check.same("the first place alone", false, same('s', 3, 0, new int[] {1, 2}, new int[] {3, 2}));
        Check.same("error alone", false, same('h', 1, 0, new int[] {1, 2}, new int[] {}));
        Check.same("a like error", true, same('h', 1, 0, new int[] {1, 2}, new int[] {3, 4}));
        Check.same("rows", true, same('c', 8, 2, new int[] {1, 2, 2}, new int[] {2, 2, 1}));
        Check.same("other rows", false, same('c', 8, 2, new int[] {1, 2, 2}, new int[] {2, 1}));
        Check.same("samples as placed", false, same('s', 3, 0, new int[] {1, 2}, new int[] {2, 1}));
        Check.same("like samples", true, same('s', 3, 0, new int[] {1, 2}, new int[] {1, 2}));
        Check.same("fewer", false, same('s', 3, 0, new int[] {0}, new int[] {}));
        Check.same("the sample alone", true, same('s', 1, 0, new int[] {4}, new int[] {4, 4, 4}));
        Check.same("hashes", true, same('m', 3, 0, new int[] {1, 1, 2}, new int[] {2, 1}));
        Check.same("none", false, same('m', 3, 0, new int[] {0}, new int[] {}));
        Check.same("cells", true, same('i', 9, 0, new int[] {1, 2, 3}, new int[] {3, 2, 1}));
        Check.same("cells' counts", false, same('i', 9, 0, new int[] {1, 1}, new int[] {}));
        Check.same("cells' sums", false, same('i', 3, 0, new int[] {1}, new int[] {2}));
        Sketchery room = new Sketchery();
        room.sketch('w', 9, 2, 0);
        room.sketch('w', 9, 2, 0);
        Check.add(room, 0, 1, 1, 1);
        Check.same("fewer buckets", false, room.isSame(0, 1));
        Check.add(room, 1, 1, 2);
        room.tick(1);
        Check.add(room, 1, 1, 3);
        Check.same("other times", false, room.isSame(0, 1));
        room.tick(9);
        Check.same("all gone", true, room.isSame(0, 1));
    }

    private static boolean same(char kind, int size, int second, int[] some, int[] others) {
        return same(kind, size, second, some, others, 11);
    }

    private static boolean same(char kind, int size, int second, int[] some, int[] others, int seed) {
        Sketchery room = new Sketchery();
        room.sketch(kind, size, second, seed);
        room.sketch(kind, size, second, seed);
        Check.add(room, 0, 1, some);
        Check.add(room, 1, 1, others);
        boolean isSame = room.isSame(0, 1);
        Check.same("either way", isSame, room.isSame(1, 0));
        return isSame;
    }

    private static void isSameOfQuantiles() {
        Check.same("rising rows", true, same('q', 4, 0, new int[] {3, 1, 2}, new int[] {1, 2, 3}));
        Check.same("levels", false, same('q', 4, 0, new int[] {3, 1, 2}, new int[] {3, 1, 4}));
        Check.same("after one compaction", true, same('q', 2, 0, new int[] {1, 3, 9}, new int[] {9, 4, 1}));
        Check.same("other level 1", false, same('q', 2, 0, new int[] {1, 3, 9}, new int[] {9, 4, 2}));
        Sketchery room = new Sketchery();
        room.sketch('q', 2, 0, 0);
        room.sketch('q', 2, 0, 0);
        room.sketch('q', 2, 0, 0);
        Check.add(room, 0, 1, 5, 5, 5);
        room.merge(1, 0);
        Check.same("turns stay those of each sketch", false, room.isSame(0, 1));
        Check.same("kept is the same", room.kept(0, 0), room.kept(1, 0));
        Check.same("the error is the same", room.error(0), room.error(1));
        room.merge(2, 0);
        Check.same("like turns", true, room.isSame(1, 2));
    }
}
