import java.math.BigInteger;

/** Promises 1 to 11 at their bounds: both ends of each range, nothing there, all that may be there, wrap-arounds. */
public final class BoundsOfCallsTest {
    private static final String KINDS = "fdhcqswmi";

    public static void main(String[] arguments) {
        newObject();
        lastCall();
        hash();
        hashWraps();
        sketchRanges();
        sketchSizes();
        tenSketches();
        addTyped();
        addTypedOfNothing();
        addTypedInOrder();
        type();
        typeRow();
        typeRowWraps();
        wipe();
        mergeOfNothing();
        mergeRefused();
        mergeStays();
        mergeAsIfOneHadSeenAll();
        mergeWraps();
        kind();
        seen();
        isSame();
        isSameOfMakes();
        isSameWhateverWasSeen();
        Check.end("BoundsOfCallsTest");
    }

    /** The second number that goes with each kind at the least. */
    static int second(char kind) {
        return kind == 'f' || kind == 'c' || kind == 'w' ? 1 : 0;
    }

    /** A size that each kind may have. */
    static int size(char kind) {
        return kind == 'i' ? 9 : 8;
    }

    private static Sketchery two(char kind) {
        Sketchery room = new Sketchery();
        room.sketch(kind, size(kind), second(kind), 3);
        room.sketch(kind, size(kind), second(kind), 3);
        return room;
    }

    private static void newObject() {
        Check.about("promise 1");
        Sketchery room = new Sketchery();
        Check.same("no sketches to sum over", 7L, room.checksum());
        Check.refuses("no sketch 0", Check.INDEX, () -> room.kind(0));
        Check.refuses("no share of none", Check.ARITHMETIC, room::seenShare);
        Check.same("nothing is typed", 0, room.wipe());
        Check.same("sound", true, room.isSound());
        Check.same("the time is 0", 1, room.tick(1));
        Sketchery other = new Sketchery();
        room.sketch('h', 1, 0, 0);
        room.type(1);
        Check.refuses("another object has no sketch of it", Check.INDEX, () -> other.kind(0));
        Check.same("nor its typed items", 0, other.wipe());
        Check.same("nor its time", 1, other.tick(1));
    }

    private static void lastCall() {
        Check.about("512 calls");
        Sketchery room = new Sketchery();
        room.sketch('c', 2, 1, 0);
        room.typeRow(0, 0, 40);
        for (int call = 3; call < 512; call++) {
            Check.same("call " + call, 40, room.addTyped(0, 1000));
        }
        Check.same("the call 512 answers", 509L * 40 * 1000, room.seen(0));
        Sketchery ten = new Sketchery();
        for (int call = 0; call < 502; call++) {
            ten.wipe();
        }
        for (int sketch = 0; sketch < 9; sketch++) {
            ten.sketch('i', 60, 0, 0);
        }
        Check.same("the call 512 makes a tenth sketch", 9, ten.sketch('i', 60, 0, 0));
    }

    private static void hash() {
        Check.about("promise 2");
        Sketchery room = new Sketchery();
        Check.range("item", 0, 65535, item -> room.hash(item, 0));
        Check.range("seed", 0, 65535, seed -> room.hash(0, seed));
        Check.refuses("both", Check.ARGUMENT, () -> room.hash(-1, 65536));
        Check.same("item and seed 0", 0, room.hash(0, 0));
    }

    private static int exactHash(int item, int seed) {
        BigInteger ints = BigInteger.TWO.pow(32);
        BigInteger sum = BigInteger.valueOf(item).multiply(BigInteger.valueOf(0x9E3779B1L))
            .add(BigInteger.valueOf(seed).multiply(BigInteger.valueOf(0x85EBCA6BL)));
        BigInteger z = sum.mod(ints);
        z = z.xor(z.shiftRight(15));
        z = z.multiply(BigInteger.valueOf(0xC2B2AE35L)).mod(ints);
        z = z.xor(z.shiftRight(13));
        return z.intValue();
    }

    private static void hashWraps() {
        Check.about("promise 2, all as ints");
        Sketchery room = new Sketchery();
        int below = 0;
        for (int item : new int[] {0, 1, 2, 32767, 32768, 65534, 65535}) {
            for (int seed : new int[] {0, 1, 2, 32767, 32768, 65534, 65535}) {
                Check.same("hash of " + item + " by " + seed, exactHash(item, seed), room.hash(item, seed));
                below += room.hash(item, seed) < 0 ? 1 : 0;
            }
        }
        Check.same("some are below 0, some are not", true, below > 0 && below < 49);
    }

    private static void sketchRanges() {
        Check.about("promise 3");
        rangesOf('f', 8, 256, 1, 8);
        rangesOf('d', 4, 64, 0, 0);
        rangesOf('h', 1, 8, 0, 0);
        rangesOf('c', 2, 64, 1, 6);
        rangesOf('q', 2, 16, 0, 0);
        rangesOf('s', 1, 10, 0, 0);
        rangesOf('w', 1, 1000, 1, 4);
        rangesOf('m', 1, 16, 0, 0);
        rangesOf('i', 3, 60, 0, 0);
        for (char kind : new char[] {0, 'e', 'g', 'F', 'a', 'b', 'j', 'k', 'l', 'n', 'p', 'r', 't', 'v', 'x', 127, 65535}) {
            Check.refuses("no kind " + (int) kind, Check.ARGUMENT, () -> new Sketchery().sketch(kind, 8, 0, 0));
            Check.refuses("no kind " + (int) kind, Check.ARGUMENT, () -> new Sketchery().sketch(kind, 8, 1, 0));
        }
    }

    private static void rangesOf(char kind, int least, int greatest, int from, int to) {
        String of = "'" + kind + "' ";
        for (int second : new int[] {from, to}) {
            Check.range(of + "size", least, greatest, size -> new Sketchery().sketch(kind, size, second, 0));
        }
        for (int size : new int[] {least, greatest}) {
            Check.range(of + "second number", from, to, second -> new Sketchery().sketch(kind, size, second, 0));
            Check.range(of + "seed", 0, 65535, seed -> new Sketchery().sketch(kind, size, from, seed));
        }
    }

    /** Each size there may be, and each in between and around that there may not. */
    private static void sketchSizes() {
        Check.about("promise 3");
        for (char kind : KINDS.toCharArray()) {
            for (int size = -2; size <= 1002; size++) {
                int each = size;
                Object due = fits(kind, size) ? (Object) 0 : Check.ARGUMENT;
                Object got = Check.outcome(() -> new Sketchery().sketch(kind, each, second(kind), 0));
                Check.same("'" + kind + "' of the size " + size, due, got);
            }
        }
    }

    private static boolean fits(char kind, int size) {
        return switch (kind) {
            case 'f' -> 8 <= size && size <= 256;
            case 'd' -> size == 4 || size == 8 || size == 16 || size == 32 || size == 64;
            case 'h' -> 1 <= size && size <= 8;
            case 'c' -> 2 <= size && size <= 64;
            case 'q' -> 2 <= size && size <= 16 && size % 2 == 0;
            case 's' -> 1 <= size && size <= 10;
            case 'w' -> 1 <= size && size <= 1000;
            case 'm' -> 1 <= size && size <= 16;
            default -> 3 <= size && size <= 60 && size % 3 == 0;
        };
    }

    private static void tenSketches() {
        Check.about("promise 3");
        for (char kind : KINDS.toCharArray()) {
            Sketchery room = new Sketchery();
            for (int number = 0; number < 10; number++) {
                int none = number;
                Check.refuses("none of that number yet", Check.INDEX, () -> room.kind(none));
                Check.same("numbers from 0 on", number, room.sketch(kind, size(kind), second(kind), number));
            }
            Check.refuses("an eleventh '" + kind + "'", Check.STATE,
                () -> room.sketch(kind, size(kind), second(kind), 0));
            Check.refuses("a wrong size comes first", Check.ARGUMENT, () -> room.sketch(kind, 0, second(kind), 0));
            Check.refuses("a wrong seed comes first", Check.ARGUMENT,
                () -> room.sketch(kind, size(kind), second(kind), 65536));
            Check.refuses("no number 10 behind it", Check.INDEX, () -> room.kind(10));
            Check.same("the tenth stays", kind, room.kind(9));
        }
    }

    private static void addTyped() {
        Check.about("promise 4");
        for (char kind : KINDS.toCharArray()) {
            Sketchery room = two(kind);
            room.type(7);
            Check.range("'" + kind + "' weight", 1, 1000, weight -> room.addTyped(0, weight));
            boolean isWeighed = kind == 'h' || kind == 'c';
            Check.same("'" + kind + "' two were added, the refused ones were not", isWeighed ? 1001L : 2L, room.seen(0));
            Check.same("'" + kind + "' the other one stays", 0L, room.seen(1));
            Check.sketches("addTyped", 2, sketch -> room.addTyped(sketch, 1));
            Check.sketches("a wrong weight comes second, and that", 2, sketch -> room.addTyped(sketch, 0));
            Check.sketches("a wrong weight comes second, and that", 2, sketch -> room.addTyped(sketch, 1001));
            Check.same("'" + kind + "' is left as it was", isWeighed ? 1001L : 2L, room.seen(0));
            room.typeRow(8, 1, 39);
            Check.same("forty are added", 40, room.addTyped(1, 1));
            Check.same("forty were seen", 40L, room.seen(1));
            Check.same("they stay typed", 40, room.addTyped(1, 1));
            Check.same("all forty of them", 40, room.wipe());
        }
    }

    private static void addTypedOfNothing() {
        Check.about("promise 4");
        for (char kind : KINDS.toCharArray()) {
            Sketchery room = two(kind);
            Check.same("'" + kind + "' nothing is typed", 0, room.addTyped(0, 1000));
            Check.same("'" + kind + "' nothing was seen", 0L, room.seen(0));
            Check.same("'" + kind + "' nor is that something", 0.0f, room.seenShare());
            Check.same("'" + kind + "' is like a new one", true, room.isSame(0, 1));
            Check.refuses("a weight of 0, though nothing is typed", Check.ARGUMENT, () -> room.addTyped(0, 0));
            Check.refuses("no sketch, though nothing is typed", Check.INDEX, () -> room.addTyped(2, 1));
        }
    }

    private static void addTypedInOrder() {
        Check.about("promise 4");
        Sketchery room = new Sketchery();
        room.sketch('s', 10, 0, 0);
        int[] items = {65535, 0, 3, 3, 2, 1, 9, 8, 0, 65535};
        for (int item : items) {
            room.type(item);
        }
        room.addTyped(0, 1);
        for (int i = 0; i < 10; i++) {
            Check.same("one behind the other, the one at " + i, items[i], room.sampleAt(0, i));
        }
    }

    private static void type() {
        Check.about("promise 5");
        Check.range("item", 0, 65535, item -> new Sketchery().type(item));
        Sketchery room = new Sketchery();
        room.sketch('c', 64, 6, 0);
        for (int many = 1; many <= 40; many++) {
            Check.same("as many are typed", many, room.type(many % 2 == 0 ? 65535 : 0));
        }
        Check.refuses("a 41st", Check.STATE, () -> room.type(5));
        for (int item : Check.WRONG_ITEMS) {
            Check.refuses("a wrong 41st", Check.ARGUMENT, () -> room.type(item));
        }
        Check.same("forty stay", 40, room.addTyped(0, 1));
        Check.same("twenty of them are 0", 20L, room.count(0, 0));
        Check.same("twenty of them are 65535", 20L, room.count(0, 65535));
        Check.same("forty are wiped", 40, room.wipe());
        Check.same("a first one again", 1, room.type(5));
    }

    private static void typeRow() {
        Check.about("promise 6");
        Check.range("first", 0, 65535, first -> new Sketchery().typeRow(first, 65535, 40));
        Check.range("step", 0, 65535, step -> new Sketchery().typeRow(65535, step, 40));
        Check.range("many", 1, 40, many -> new Sketchery().typeRow(65535, 65535, many));
        for (int before = 0; before <= 40; before++) {
            for (int many = 1; many <= 40; many++) {
                Sketchery room = new Sketchery();
                if (before > 0) {
                    room.typeRow(1, 1, before);
                }
                int more = many;
                Object due = before + many <= 40 ? (Object) (before + many) : Check.STATE;
                Check.same(many + " more than " + before, due, Check.outcome(() -> room.typeRow(7, 1, more)));
                Check.same("none of a refused row", before + many <= 40 ? before + many : before, room.wipe());
            }
        }
        Sketchery full = new Sketchery();
        full.typeRow(0, 0, 40);
        Check.refuses("a wrong first comes first", Check.ARGUMENT, () -> full.typeRow(-1, 0, 1));
        Check.refuses("a wrong step comes first", Check.ARGUMENT, () -> full.typeRow(0, 65536, 1));
        Check.refuses("none comes first", Check.ARGUMENT, () -> full.typeRow(0, 0, 0));
        Check.refuses("41 come first", Check.ARGUMENT, () -> full.typeRow(0, 0, 41));
    }

    private static void typeRowWraps() {
        Check.about("promise 6, modulo 65536");
        int[][] rows = {{65535, 1, 40}, {65535, 65535, 40}, {0, 65535, 40}, {40000, 40000, 40}, {65535, 0, 2}, {1, 32768, 3}};
        for (int[] row : rows) {
            Sketchery room = new Sketchery();
            room.sketch('s', 10, 0, 9);
            room.sketch('s', 10, 0, 9);
            room.typeRow(row[0], row[1], row[2]);
            room.addTyped(0, 1);
            room.wipe();
            for (long i = 0; i < row[2]; i++) {
                room.type((int) ((row[0] + i * row[1]) % 65536));
            }
            room.addTyped(1, 1);
            Check.same("the row of " + row[0] + " by " + row[1], true, room.isSame(0, 1));
        }
        Sketchery room = new Sketchery();
        room.sketch('s', 3, 0, 0);
        room.typeRow(65534, 1, 3);
        room.addTyped(0, 1);
        Check.same("65535 comes behind 65534", 65535, room.sampleAt(0, 1));
        Check.same("0 comes behind 65535", 0, room.sampleAt(0, 2));
    }

    private static void wipe() {
        Check.about("promise 7");
        Sketchery room = new Sketchery();
        room.sketch('h', 8, 0, 0);
        Check.same("nothing there yet", 0, room.wipe());
        Check.same("nothing left", 0, room.wipe());
        room.type(65535);
        Check.same("one", 1, room.wipe());
        room.typeRow(0, 1, 40);
        Check.same("forty", 40, room.wipe());
        Check.same("nothing left of forty", 0, room.wipe());
        Check.same("none of them is added", 0, room.addTyped(0, 1));
        Check.same("nothing was seen", 0L, room.seen(0));
        Check.same("forty again", 40, room.typeRow(0, 1, 40));
        room.addTyped(0, 1);
        room.wipe();
        Check.same("what was added stays", 40L, room.seen(0));
    }

    private static void mergeOfNothing() {
        Check.about("promise 8");
        for (char kind : "fdhcqmi".toCharArray()) {
            Sketchery room = two(kind);
            Check.same("'" + kind + "' nothing into nothing", 0L, room.merge(0, 1));
            Check.same("'" + kind + "' is like a new one", true, room.isSame(0, 1));
            Check.same("'" + kind + "' nor is that something", 0.0f, room.seenShare());
            Check.add(room, 0, 1, 5, 6, 7);
            room.sketch(kind, size(kind), second(kind), 3);
            Check.add(room, 2, 1, 5, 6, 7);
            Check.same("'" + kind + "' nothing into something", 3L, room.merge(0, 1));
            Check.same("'" + kind + "' which stays", true, room.isSame(0, 2));
            Check.same("'" + kind + "' something into nothing", 3L, room.merge(1, 0));
            Check.same("'" + kind + "' which is like it then", true, room.isSame(1, 2));
            Check.same("'" + kind + "' sound", true, room.isSound());
        }
    }

    private static void mergeRefused() {
        Check.about("promise 8");
        for (char kind : KINDS.toCharArray()) {
            Sketchery room = two(kind);
            room.sketch(kind, size(kind), second(kind), 4);
            room.sketch(kind == 'f' ? 'c' : 'f', 8, 1, 3);
            Check.add(room, 0, 1, 1, 2);
            Check.add(room, 1, 1, 3, 4);
            Check.sketches("into none", 4, sketch -> room.merge(sketch, 0));
            Check.sketches("of none", 4, sketch -> room.merge(0, sketch));
            Check.sketches("none into itself", 4, sketch -> room.merge(sketch, sketch));
            Check.refuses("'" + kind + "' into itself", Check.UNSUPPORTED, () -> room.merge(0, 0));
            Check.refuses("'" + kind + "' of another seed", Check.UNSUPPORTED, () -> room.merge(0, 2));
            Check.refuses("'" + kind + "' and another kind", Check.UNSUPPORTED, () -> room.merge(0, 3));
            Check.refuses("another kind and '" + kind + "'", Check.UNSUPPORTED, () -> room.merge(3, 0));
            boolean isMerged = kind != 's' && kind != 'w';
            Check.same("'" + kind + "' of one make", isMerged ? (Object) 4L : Check.UNSUPPORTED,
                Check.outcome(() -> room.merge(0, 1)));
        }
        Sketchery sizes = new Sketchery();
        sizes.sketch('f', 8, 1, 0);
        sizes.sketch('f', 9, 1, 0);
        sizes.sketch('f', 8, 2, 0);
        Check.refuses("another size", Check.UNSUPPORTED, () -> sizes.merge(0, 1));
        Check.refuses("another second number", Check.UNSUPPORTED, () -> sizes.merge(0, 2));
    }

    private static void mergeStays() {
        Check.about("promise 8");
        for (char kind : "fdhcqmi".toCharArray()) {
            Sketchery room = two(kind);
            room.sketch(kind, size(kind), second(kind), 3);
            room.typeRow(11, 65000, 40);
            room.addTyped(1, 3);
            room.addTyped(2, 3);
            room.wipe();
            room.typeRow(65535, 77, 40);
            room.addTyped(0, 2);
            long due = kind == 'h' || kind == 'c' ? 200L : 80L;
            Check.same("'" + kind + "' the sum of both", due, room.merge(0, 1));
            Check.same("'" + kind + "' the other one stays", true, room.isSame(1, 2));
            Check.same("'" + kind + "' so does its weight", room.seen(2), room.seen(1));
        }
    }

    /** At the least and the greatest size of each kind that forgets nothing by merging. */
    private static void mergeAsIfOneHadSeenAll() {
        Check.about("promise 8");
        int[][] sizes = {{8, 1, 256, 8}, {4, 0, 64, 0}, {2, 1, 64, 6}, {1, 0, 16, 0}, {3, 0, 60, 0}};
        for (int i = 0; i < 5; i++) {
            char kind = "fdcmi".charAt(i);
            for (int end = 0; end < 4; end += 2) {
                Sketchery room = new Sketchery();
                for (int sketch = 0; sketch < 3; sketch++) {
                    room.sketch(kind, sizes[i][end], sizes[i][end + 1], 65535);
                }
                for (int row = 0; row < 20; row++) {
                    room.wipe();
                    room.typeRow(row * 40, 1, 1 + row * 2);
                    room.addTyped(row % 2, 1 + row);
                    room.addTyped(2, 1 + row);
                }
                room.merge(0, 1);
                Check.same("'" + kind + "' as if one had seen all", true, room.isSame(0, 2));
                Check.same("'" + kind + "' all that was seen", room.seen(2), room.seen(0));
                room.merge(1, 2);
                boolean isMore = kind == 'c' || kind == 'i';
                Check.same("'" + kind + "' items seen twice", !isMore, room.isSame(1, 2));
            }
        }
    }

    private static void mergeWraps() {
        Check.about("promise 8, a long");
        for (char kind : "fdhcqmi".toCharArray()) {
            Sketchery room = two(kind);
            room.typeRow(0, 1, 40);
            room.addTyped(0, 1000);
            room.addTyped(1, 999);
            BigInteger[] due = {BigInteger.valueOf(room.seen(0)), BigInteger.valueOf(room.seen(1))};
            boolean isBelow = false;
            for (int i = 0; i < 200; i++) {
                int into = i % 2;
                due[into] = due[into].add(due[1 - into]);
                long seen = room.merge(into, 1 - into);
                Check.same("'" + kind + "' the sum " + i, due[into].longValue(), seen);
                isBelow = isBelow || seen < 0;
            }
            Check.same("'" + kind + "' wraps around", true, isBelow);
            Check.same("'" + kind + "' both have seen something", 1.0f, room.seenShare());
        }
    }

    private static void kind() {
        Check.about("promise 9");
        Sketchery room = Check.roomOfAllKinds();
        for (int sketch = 0; sketch < 9; sketch++) {
            Check.same("kind of " + sketch, KINDS.charAt(sketch), room.kind(sketch));
        }
        Check.sketches("kind", 9, room::kind);
        Check.sketches("kind in an empty room", 0, sketch -> new Sketchery().kind(sketch));
    }

    private static void seen() {
        Check.about("promise 10");
        Sketchery room = Check.roomOfAllKinds();
        for (int sketch = 0; sketch < 9; sketch++) {
            Check.same("nothing at first by " + sketch, 0L, room.seen(sketch));
        }
        room.typeRow(3, 0, 40);
        for (int sketch = 0; sketch < 9; sketch++) {
            room.addTyped(sketch, 1000);
            char kind = room.kind(sketch);
            Check.same("forty by '" + kind + "'", kind == 'h' || kind == 'c' ? 40000L : 40L, room.seen(sketch));
        }
        Check.sketches("seen", 9, room::seen);
        Check.sketches("seen in an empty room", 0, sketch -> new Sketchery().seen(sketch));
        Sketchery great = two('c');
        great.typeRow(3, 0, 40);
        great.addTyped(0, 1000);
        long due = 40000;
        for (int i = 0; i < 20; i++) {
            great.merge(1, 0);
            great.merge(0, 1);
        }
        long other = 0;
        for (int i = 0; i < 20; i++) {
            other += due;
            due += other;
        }
        Check.same("above an int", due, great.seen(0));
        Check.same("above an int it is", true, due > Integer.MAX_VALUE);
    }

    private static void isSame() {
        Check.about("promise 11");
        for (char kind : KINDS.toCharArray()) {
            Sketchery room = two(kind);
            Check.same("'" + kind + "' two with nothing", true, room.isSame(0, 1));
            Check.same("'" + kind + "' itself with nothing", true, room.isSame(0, 0));
            Check.add(room, 0, 1, 5);
            Check.same("'" + kind + "' one with nothing", false, room.isSame(0, 1));
            Check.same("'" + kind + "' and the other way", false, room.isSame(1, 0));
            Check.same("'" + kind + "' itself", true, room.isSame(0, 0));
            Check.add(room, 1, 1, 5);
            Check.same("'" + kind + "' two with one item", true, room.isSame(0, 1));
            Check.sketches("isSame, ahead,", 2, sketch -> room.isSame(sketch, 0));
            Check.sketches("isSame, behind,", 2, sketch -> room.isSame(0, sketch));
            Check.sketches("isSame, both,", 2, sketch -> room.isSame(sketch, sketch));
        }
    }

    /** Ten empty sketches, of which no two are of one make. */
    private static void isSameOfMakes() {
        Check.about("promise 11");
        Sketchery room = new Sketchery();
        room.sketch('d', 8, 0, 0);
        room.sketch('h', 8, 0, 0);
        room.sketch('q', 8, 0, 0);
        room.sketch('s', 8, 0, 0);
        room.sketch('m', 8, 0, 0);
        room.sketch('f', 8, 1, 0);
        room.sketch('c', 8, 1, 0);
        room.sketch('w', 8, 1, 0);
        room.sketch('w', 8, 2, 0);
        room.sketch('w', 8, 1, 65535);
        for (int one = 0; one < 10; one++) {
            for (int two = 0; two < 10; two++) {
                Check.same("of one make: " + one + " and " + two, one == two, room.isSame(one, two));
            }
        }
    }

    private static void isSameWhateverWasSeen() {
        Check.about("promise 11, whatever was seen");
        for (char kind : "fdm".toCharArray()) {
            Sketchery room = two(kind);
            Check.add(room, 0, 1, 5);
            Check.add(room, 1, 1, 5, 5, 5);
            Check.same("'" + kind + "' of one item", true, room.isSame(0, 1));
        }
        Sketchery windows = two('w');
        Check.add(windows, 0, 1, 5);
        windows.tick(8);
        Check.same("'w' all are gone", true, windows.isSame(0, 1));
        Sketchery heavy = new Sketchery();
        heavy.sketch('h', 1, 0, 0);
        heavy.sketch('h', 1, 0, 0);
        Check.add(heavy, 0, 1, 5, 6);
        Check.add(heavy, 1, 1, 7, 8, 9);
        Check.same("'h' 9 has a counter", false, heavy.isSame(0, 1));
        Check.add(heavy, 1, 1, 10);
        Check.same("'h' the error of 2 is another one", false, heavy.isSame(0, 1));
        Check.add(heavy, 0, 1, 1, 2);
        Check.same("'h' no counters, and an error of 2", true, heavy.isSame(0, 1));
        Sketchery cells = two('i');
        Check.add(cells, 0, 1, 5);
        cells.subtract(0, 1);
        Check.add(cells, 1, 1, 5);
        cells.subtract(0, 1);
        cells.subtract(1, 0);
        Check.same("'i' one is empty, one is not", false, cells.isSame(0, 1));
        cells.merge(0, 1);
        Check.same("'i' both have 5", true, cells.isSame(0, 1));
    }
}
