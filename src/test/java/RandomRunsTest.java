import java.util.Random;

/** Random runs of 512 calls, each held against the same run of a PlainRoom; the seeds are fixed. */
public final class RandomRunsTest {
    private static final int RUNS = 3000;
    private static final int[] EDGES = {
        Integer.MIN_VALUE, -65536, -1, 0, 1, 2, 7, 8, 39, 40, 41, 999, 1000, 1001, 2000, 2001, 65535, 65536,
        Integer.MAX_VALUE
    };

    private final Random random;
    private final Sketchery room = new Sketchery();
    private final PlainRoom plain = new PlainRoom();
    private final int range;
    /** Most calls merge then, so that numbers come to wrap around. */
    private final boolean isMerging;

    private RandomRunsTest(int seed) {
        random = new Random(seed);
        int[] ranges = {4, 20, 300, 65536};
        range = ranges[seed % ranges.length];
        isMerging = seed % 5 == 0;
    }

    public static void main(String[] arguments) {
        for (int seed = 0; seed < RUNS; seed++) {
            new RandomRunsTest(seed).run(seed);
        }
        Check.end("RandomRunsTest");
    }

    private void run(int seed) {
        for (int call = 0; call < 511; call++) {
            one(seed + "/" + call + " ");
        }
        boolean isBeyond = false;
        for (int sketch = 0; sketch < 10; sketch++) {
            isBeyond = isBeyond || plain.isBeyondALong(sketch);
        }
        Check.same(seed + " isSound", true, isBeyond || room.isSound());
    }

    private int edge() {
        return EDGES[random.nextInt(EDGES.length)];
    }

    private boolean rarely() {
        return random.nextInt(40) == 0;
    }

    private int item() {
        return rarely() ? edge() : random.nextInt(range);
    }

    private int number(int from, int to) {
        return rarely() ? edge() : from + random.nextInt(to - from + 1);
    }

    private int any() {
        int all = plain.sketches.size();
        return all == 0 || rarely() ? edge() : random.nextInt(all);
    }

    /** Mostly a sketch of a kind, so that not all calls are refused. */
    private int of(String kinds) {
        for (int i = 0; i < 20; i++) {
            int sketch = any();
            if (sketch < 0 || sketch >= plain.sketches.size() || kinds.indexOf(plain.sketches.get(sketch).kind) >= 0) {
                return sketch;
            }
        }
        return any();
    }

    /** Mostly a sketch of the same make as another one. */
    private int likeOf(int sketch) {
        if (sketch < 0 || sketch >= plain.sketches.size()) {
            return any();
        }
        PlainRoom.Plain one = plain.sketches.get(sketch);
        for (int i = 0; i < 30; i++) {
            int other = any();
            if (other >= 0 && other < plain.sketches.size() && other != sketch) {
                PlainRoom.Plain two = plain.sketches.get(other);
                if (one.kind == two.kind && one.size == two.size && one.second == two.second && one.seed == two.seed) {
                    return other;
                }
            }
        }
        return any();
    }

    private void agree(String call, Check.Call due, Check.Call got) {
        Object wanted = Check.outcome(due);
        Object answered = Check.outcome(got);
        Check.same(call, wanted, answered);
    }

    private void one(String at) {
        int choice = random.nextInt(100);
        if (choice < (isMerging ? 3 : 8)) {
            make(at);
        } else if (choice < (isMerging ? 12 : 40)) {
            fill(at);
        } else if (choice < (isMerging ? 82 : 50)) {
            combine(at);
        } else if (choice < 99) {
            ask(at);
        } else {
            failures(at);
        }
    }

    private void make(String at) {
        int last = plain.sketches.size() - 1;
        if (last >= 0 && random.nextInt(2) == 0) {
            PlainRoom.Plain like = plain.sketches.get(random.nextInt(last + 1));
            sketch(at, like.kind, like.size, like.second, like.seed);
            return;
        }
        char kind = rarely() ? 'x' : "fdhcqswmi".charAt(random.nextInt(9));
        int size = switch (kind) {
            case 'f' -> number(8, 256);
            case 'd' -> rarely() ? edge() : 4 << random.nextInt(5);
            case 'h' -> number(1, 8);
            case 'c' -> number(2, 64);
            case 'q' -> rarely() ? edge() : 2 * (1 + random.nextInt(8));
            case 's' -> number(1, 10);
            case 'w' -> number(1, random.nextBoolean() ? 10 : 1000);
            case 'm' -> number(1, 16);
            default -> rarely() ? edge() : 3 * (1 + random.nextInt(20));
        };
        int second = switch (kind) {
            case 'f' -> number(1, 8);
            case 'c' -> number(1, 6);
            case 'w' -> number(1, 4);
            default -> rarely() ? edge() : 0;
        };
        sketch(at, kind, size, second, random.nextInt(8) == 0 ? 65535 : number(0, 65535));
    }

    private void sketch(String at, char kind, int size, int second, int seed) {
        String call = at + "sketch " + kind + " " + size + " " + second + " " + seed;
        agree(call, () -> plain.sketch(kind, size, second, seed), () -> room.sketch(kind, size, second, seed));
    }

    private void fill(String at) {
        int sketch = any();
        int number = item();
        int weight = number(1, random.nextBoolean() ? 3 : 1000);
        int step = rarely() ? edge() : random.nextInt(range);
        int many = rarely() ? edge() : 1 + random.nextInt(20);
        switch (random.nextInt(8)) {
            case 0 -> agree(at + "wipe", plain::wipe, room::wipe);
            case 1, 2 -> agree(at + "type " + number, () -> plain.type(number), () -> room.type(number));
            case 3 -> agree(at + "typeRow " + number + " " + step + " " + many,
                () -> plain.typeRow(number, step, many), () -> room.typeRow(number, step, many));
            case 4 -> {
                int ticks = number(1, random.nextInt(4) == 0 ? 2000 : 5);
                agree(at + "tick " + ticks, () -> plain.tick(ticks), () -> room.tick(ticks));
            }
            default -> agree(at + "addTyped " + sketch + " " + weight,
                () -> plain.addTyped(sketch, weight), () -> room.addTyped(sketch, weight));
        }
    }

    private void combine(String at) {
        int sketch = any();
        int other = likeOf(sketch);
        String both = " " + sketch + " " + other;
        switch (isMerging && random.nextInt(10) > 0 ? 0 : random.nextInt(4)) {
            case 0 -> agree(at + "merge" + both, () -> plain.merge(sketch, other), () -> room.merge(sketch, other));
            case 1 -> agree(at + "isSame" + both, () -> plain.isSame(sketch, other), () -> room.isSame(sketch, other));
            case 2 -> agree(at + "likeness" + both,
                () -> plain.likeness(sketch, other), () -> room.likeness(sketch, other));
            default -> agree(at + "subtract" + both,
                () -> plain.subtract(sketch, other), () -> room.subtract(sketch, other));
        }
    }

    private void ask(String at) {
        if (random.nextBoolean()) {
            askCounts(at);
        } else {
            askOthers(at);
        }
    }

    private void askCounts(String at) {
        int number = item();
        int index = number(0, 7);
        int f = of("f");
        int d = of("d");
        int h = of("h");
        int c = of("c");
        int hc = of("hc");
        int hq = of("hq");
        switch (random.nextInt(12)) {
            case 0 -> agree(at + "may " + f, () -> plain.may(f, number), () -> room.may(f, number));
            case 1 -> agree(at + "ones " + f, () -> plain.ones(f), () -> room.ones(f));
            case 2 -> agree(at + "register " + d, () -> plain.register(d, index), () -> room.register(d, index));
            case 3 -> agree(at + "distinct " + d, () -> plain.distinct(d), () -> room.distinct(d));
            case 4 -> agree(at + "count " + hc, () -> plain.count(hc, number), () -> room.count(hc, number));
            case 5 -> agree(at + "heavyAt " + h, () -> plain.heavyAt(h, index), () -> room.heavyAt(h, index));
            case 6 -> agree(at + "error " + hq, () -> plain.error(hq), () -> room.error(hq));
            case 7 -> agree(at + "excess " + c, () -> plain.excess(c, index, number), () -> room.excess(c, index, number));
            case 8 -> agree(at + "kind " + f, () -> plain.kind(f), () -> room.kind(f));
            case 9 -> agree(at + "seen " + f, () -> plain.seen(f), () -> room.seen(f));
            case 10 -> agree(at + "seenShare", plain::seenShare, room::seenShare);
            default -> agree(at + "checksum", plain::checksum, room::checksum);
        }
    }

    private void askOthers(String at) {
        int number = item();
        int level = number(0, 5);
        int index = number(0, 7);
        int share = number(0, 100);
        boolean isThere = random.nextBoolean();
        int q = of("q");
        int s = of("s");
        int w = of("w");
        int m = of("m");
        int i = of("i");
        switch (random.nextInt(11)) {
            case 0 -> agree(at + "rank " + q, () -> plain.rank(q, number), () -> room.rank(q, number));
            case 1 -> {
                if (!plain.isBeyondALong(q)) {
                    agree(at + "quantile " + q, () -> plain.quantile(q, share), () -> room.quantile(q, share));
                }
            }
            case 2 -> agree(at + "kept " + q, () -> plain.kept(q, level), () -> room.kept(q, level));
            case 3 -> agree(at + "keptAt " + q, () -> plain.keptAt(q, level, index), () -> room.keptAt(q, level, index));
            case 4 -> agree(at + "sampleAt " + s, () -> plain.sampleAt(s, index), () -> room.sampleAt(s, index));
            case 5 -> agree(at + "within " + w, () -> plain.within(w), () -> room.within(w));
            case 6 -> agree(at + "bucketAt " + w, () -> plain.bucketAt(w, index), () -> room.bucketAt(w, index));
            case 7 -> agree(at + "leastAt " + m, () -> plain.leastAt(m, index), () -> room.leastAt(m, index));
            case 8 -> agree(at + "peeled " + i, () -> plain.peeled(i, isThere), () -> room.peeled(i, isThere));
            case 9 -> agree(at + "peeledAt " + i,
                () -> plain.peeledAt(i, isThere, index), () -> room.peeledAt(i, isThere, index));
            default -> agree(at + "isClean " + i, () -> plain.isClean(i), () -> room.isClean(i));
        }
    }

    private void failures(String at) {
        int bits = number(8, 256);
        int hashes = number(1, 8);
        int items = number(0, 40);
        int cells = rarely() ? edge() : 3 * (1 + random.nextInt(20));
        int seeds = number(1, 20);
        int most = number(0, 20);
        switch (random.nextInt(40)) {
            case 0 -> agree(at + "leastBits", () -> PlainRoom.leastBits(items, seeds, most),
                () -> room.leastBits(items, seeds, most));
            case 1, 2, 3, 4, 5 -> agree(at + "cellFailures", () -> PlainRoom.cellFailures(cells, items, seeds),
                () -> room.cellFailures(cells, items, seeds));
            case 6, 7, 8, 9 -> agree(at + "filterFailures", () -> PlainRoom.filterFailures(bits, hashes, items, seeds),
                () -> room.filterFailures(bits, hashes, items, seeds));
            default -> agree(at + "hash " + bits, () -> plain.hashOf(bits, items), () -> room.hash(bits, items));
        }
    }
}
