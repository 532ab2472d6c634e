import java.lang.management.ManagementFactory;
import java.math.BigInteger;
import java.util.Random;

/** 512 calls in one room that are dear, that let numbers grow beyond a long, or that are wild. */
public final class LongRunsTest {
    private static final String KINDS = "fdhcqmi";

    public static void main(String[] arguments) {
        for (char kind : KINDS.toCharArray()) {
            mergesInTurn(kind);
        }
        quantilesBeyondALong();
        quantileNearALong();
        subtractsInTurn();
        dearCalls();
        largestWindow();
        for (int seed = 0; seed < 300; seed++) {
            wildRun(seed);
        }
        Check.end("LongRunsTest");
    }

    private static Sketchery pair(char kind) {
        Sketchery room = new Sketchery();
        int size = kind == 'i' ? 60 : kind == 'h' ? 8 : 16;
        int second = kind == 'f' || kind == 'c' ? 6 : 0;
        room.sketch(kind, size, second, 0);
        room.sketch(kind, size, second, 0);
        room.typeRow(1, 7, 40);
        room.addTyped(0, 1000);
        room.wipe();
        room.typeRow(100, 7, 40);
        room.addTyped(1, 999);
        return room;
    }

    private static void mergesInTurn(char kind) {
        Sketchery room = pair(kind);
        long[] seen = {room.seen(0), room.seen(1)};
        for (int i = 0; i < 500; i++) {
            int into = i % 2;
            seen[into] += seen[1 - into];
            Check.same(kind + " merge " + i, seen[into], room.merge(into, 1 - into));
        }
        Check.same(kind + " something was seen", 1.0f, room.seenShare());
        if (kind == 'c' || kind == 'q') {
            Check.same(kind + " sound modulo 2 to the 64", true, room.isSound());
        }
        Check.same(kind + " itself", true, room.isSame(0, 0));
    }

    private static void quantilesBeyondALong() {
        Sketchery room = pair('q');
        for (int i = 0; i < 450; i++) {
            room.merge(i % 2, 1 - i % 2);
        }
        int most = 0;
        for (int level = 300; level < 345; level++) {
            int kept = room.kept(0, level);
            Check.same("a level keeps its size at most", true, kept <= 16);
            most = kept > 0 ? level : most;
        }
        Check.same("many levels", true, most > 300);
        Check.refuses("none above all", Check.NONE, () -> room.keptAt(0, 400, 0));
        Check.same("all", room.seen(0), room.rank(0, 65535));
        Check.same("an item", true, room.quantile(0, 50) > 0);
        Check.same("the least one kept", true, room.quantile(0, 0) <= room.quantile(0, 100));
    }

    /** The share times the weight is above a long, the weight is not. */
    private static void quantileNearALong() {
        Sketchery room = pair('q');
        long seen = 40;
        for (int i = 0; seen < 1L << 61; i++) {
            seen = room.merge(i % 2, 1 - i % 2);
        }
        int at = room.seen(0) == seen ? 0 : 1;
        int before = -1;
        for (int share = 0; share <= 100; share++) {
            int item = room.quantile(at, share);
            BigInteger due = BigInteger.valueOf(seen).multiply(BigInteger.valueOf(share));
            BigInteger hundred = BigInteger.valueOf(100);
            BigInteger upTo = BigInteger.valueOf(room.rank(at, item + 1)).multiply(hundred);
            BigInteger below = BigInteger.valueOf(room.rank(at, item)).multiply(hundred);
            Check.same("enough for " + share, true, upTo.compareTo(due) >= 0);
            Check.same("least for " + share, true, share == 0 || below.compareTo(due) < 0);
            Check.same("rising", true, item >= before);
            before = item;
        }
    }

    private static void subtractsInTurn() {
        Sketchery room = pair('i');
        for (int i = 0; i < 120; i++) {
            room.subtract(i % 2, 1 - i % 2);
            Check.same("few are peeled", true, room.peeled(0, true) + room.peeled(0, false) <= 200);
            room.isClean(1);
        }
    }

    private static long allocated() {
        com.sun.management.ThreadMXBean bean = (com.sun.management.ThreadMXBean) ManagementFactory.getThreadMXBean();
        return bean.getThreadAllocatedBytes(Thread.currentThread().getId());
    }

    private static void dearCalls() {
        long before = allocated();
        Sketchery room = new Sketchery();
        for (int i = 0; i < 10; i++) {
            room.sketch('q', 16, 0, 0);
        }
        room.typeRow(0, 65535, 40);
        for (int i = 0; i < 100; i++) {
            room.addTyped(i % 10, 1000);
            room.merge(i % 10, (i + 1) % 10);
            room.leastBits(40, 100, 13);
            room.cellFailures(60, 40, 100);
            room.filterFailures(256, 8, 40, 500);
        }
        long used = allocated() - before;
        Check.same("a run makes few objects: " + used + " bytes", true, used < 2_000_000);
        Check.same("sound", true, room.isSound());
    }

    private static void largestWindow() {
        for (int second = 1; second <= 4; second++) {
            Sketchery room = new Sketchery();
            room.sketch('w', 1000, second, 0);
            room.typeRow(0, 1, 40);
            for (int i = 0; i < 400; i++) {
                room.addTyped(0, 1);
                if (i % 10 == 0) {
                    room.tick(1);
                }
            }
            Check.same("seen", 400L * 40, room.seen(0));
            int sum = 0;
            int last = 0;
            for (int i = 0; last >= 0; i++) {
                int index = i;
                Object size = Check.outcome(() -> room.bucketAt(0, index));
                last = size instanceof Integer ? (Integer) size : -1;
                sum += Math.max(last, 0);
            }
            Check.same("no bucket is lost", 400 * 40, sum);
            Check.same("sound", true, room.isSound());
        }
    }

    private static int wild(Random random) {
        int[] some = {
            Integer.MIN_VALUE, Integer.MIN_VALUE + 1, -65536, -2, -1, 0, 1, 2, 3, 4, 8, 16, 30, 60, 64, 100, 256, 1000,
            65535, 65536, Integer.MAX_VALUE - 1, Integer.MAX_VALUE
        };
        return random.nextInt(3) == 0 ? random.nextInt() : some[random.nextInt(some.length)];
    }

    /** Nothing but the exceptions of the face, of the very classes, comes out. */
    private static void wildRun(int seed) {
        Random random = new Random(seed);
        Sketchery room = new Sketchery();
        for (int call = 0; call < 512; call++) {
            int choice = random.nextInt(37);
            int a = choice > 5 && random.nextInt(4) > 0 ? random.nextInt(10) : wild(random);
            int b = random.nextInt(3) > 0 ? random.nextInt(10) : wild(random);
            int c = random.nextInt(2) > 0 ? random.nextInt(4) : wild(random);
            int d = random.nextInt(2) > 0 ? random.nextInt(65536) : wild(random);
            char kind = (KINDS + "sw" + (char) random.nextInt(65536)).charAt(random.nextInt(10));
            int size = random.nextInt(3) > 0 ? 4 << random.nextInt(3) : 3 * random.nextInt(22);
            int second = "fcw".indexOf(kind) >= 0 ? 1 + random.nextInt(4) : 0;
            Object outcome = Check.outcome(() -> choice < 18
                ? early(room, choice, kind, new int[] {a, b, c, d, size, second}) : late(room, choice, a, b, c, d));
            boolean isFine = !(outcome instanceof Class) || outcome == Check.INDEX || outcome == Check.ARGUMENT
                || outcome == Check.STATE || outcome == Check.UNSUPPORTED || outcome == Check.NONE
                || outcome == Check.ARITHMETIC && choice == 34;
            Check.same("wild run " + seed + ", call " + choice + " answers " + outcome, true, isFine);
        }
    }

    private static Object early(Sketchery room, int choice, char kind, int[] n) {
        return switch (choice) {
            case 0 -> room.hash(n[0], n[3]);
            case 1 -> room.sketch(kind, n[0], n[1], n[3]);
            case 2, 3 -> room.sketch(kind, n[4], n[5], n[1]);
            case 4 -> room.type(n[0]);
            case 5 -> room.typeRow(n[3], n[0], n[1]);
            case 6, 7 -> room.addTyped(n[0], n[2] + 1);
            case 8 -> room.merge(n[0], n[1]);
            case 9 -> room.kind(n[0]);
            case 10 -> room.seen(n[0]);
            case 11 -> room.isSame(n[0], n[1]);
            case 12 -> room.may(n[0], n[3]);
            case 13 -> room.ones(n[0]);
            case 14 -> room.register(n[0], n[1]);
            case 15 -> room.distinct(n[0]);
            case 16 -> room.count(n[0], n[3]);
            default -> room.heavyAt(n[0], n[2]);
        };
    }

    private static Object late(Sketchery room, int choice, int a, int b, int c, int d) {
        return switch (choice) {
            case 18 -> room.error(a);
            case 19 -> room.excess(a, c, d);
            case 20 -> room.rank(a, d);
            case 21 -> room.quantile(a, b);
            case 22 -> room.kept(a, c);
            case 23 -> room.keptAt(a, c, b);
            case 24 -> room.sampleAt(a, b);
            case 25 -> room.tick(a);
            case 26 -> room.within(a);
            case 27 -> room.bucketAt(a, b);
            case 28 -> room.leastAt(a, b);
            case 29 -> room.likeness(a, b);
            case 30 -> room.subtract(a, b);
            case 31 -> c > 1 ? (Object) room.isClean(a) : room.peeled(a, c > 0);
            case 32 -> room.peeledAt(a, c > 1, b);
            case 33 -> room.wipe();
            case 34 -> room.seenShare();
            case 35 -> c > 1 ? (Object) room.isSound() : room.checksum();
            default -> b > 4 ? room.filterFailures(d, b, c, a) : b > 2 ? room.cellFailures(a, b, c) : room.leastBits(b, c, a);
        };
    }
}
