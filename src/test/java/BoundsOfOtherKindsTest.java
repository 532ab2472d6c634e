import java.util.List;

/** The kinds 'q', 's', 'w', 'm' and 'i' at their bounds, sentence by sentence of 'Terms'. */
public final class BoundsOfOtherKindsTest {
    public static void main(String[] arguments) {
        fullLevels();
        turnsOfLevels();
        likeItemsInLevels();
        levelsMergeFromTheLowest();
        levelsMergeAboveOwn();
        turnsStay();
        ranksAreWithinTheError();
        levelsAboveAnInt();
        levelsAboveALong();
        quantilesOfFew();
        sampleOfOne();
        sampleDraws();
        sampleOfManyAtOnce();
        windowAges();
        windowOfOneTick();
        windowJoins();
        windowLetsSomeGo();
        windowsOfOneTime();
        windowAtTheEndOfTime();
        leastHashesAreSigned();
        leastHashesMerge();
        cellsOfThirds();
        peelsByOneThirdAlone();
        cellCounts();
        cellsOfAnotherItem();
        cellsMerge();
        endlessPeeling();
        cellCountsWrap();
        Check.end("BoundsOfOtherKindsTest");
    }

    private static Sketchery two(char kind, int size, int second, int seed) {
        Sketchery room = new Sketchery();
        room.sketch(kind, size, second, seed);
        room.sketch(kind, size, second, seed);
        return room;
    }

    private static void levelIs(Sketchery room, int sketch, int level, int... items) {
        Check.same("kept on " + level, items.length, room.kept(sketch, level));
        for (int i = 0; i < items.length && i < room.kept(sketch, level); i++) {
            Check.same("kept on " + level + " at " + i, items[i], room.keptAt(sketch, level, i));
        }
    }

    private static void fullLevels() {
        Check.about("'q'");
        for (int size = 2; size <= 16; size += 2) {
            Sketchery room = Check.room('q', size, 0, 0);
            for (int i = 0; i < size; i++) {
                Check.add(room, 0, 1000, 65535 - i);
            }
            Check.same("a full level of " + size + " is not compacted", size, room.kept(0, 0));
            Check.same("nor is there an error", 0L, room.error(0));
            Check.add(room, 0, 1, 0);
            levelIs(room, 0, 0, 65535);
            int[] gone = new int[size / 2];
            for (int i = 1; i < gone.length; i++) {
                gone[i] = 65535 - size + 2 * i;
            }
            levelIs(room, 0, 1, gone);
            Check.same("one more item is", 1L, room.error(0));
            Check.same("what items stand for", size + 1L, room.seen(0));
            Check.same("sound", true, room.isSound());
        }
    }

    private static void turnsOfLevels() {
        Check.about("'q', in turn");
        Sketchery room = Check.room('q', 2, 0, 0, 10, 20, 30);
        levelIs(room, 0, 0, 30);
        levelIs(room, 0, 1, 10);
        Check.add(room, 0, 1, 12, 22);
        levelIs(room, 0, 0, 30);
        levelIs(room, 0, 1, 10, 22);
        Check.add(room, 0, 1, 14, 24);
        // 14 at the even place; 10 14 22: 22 stays, 10 at the even place goes up.
        levelIs(room, 0, 0, 30);
        levelIs(room, 0, 1, 22);
        levelIs(room, 0, 2, 10);
        Check.add(room, 0, 1, 16, 26);
        levelIs(room, 0, 1, 22, 26);
        Check.add(room, 0, 1, 18, 28);
        // 18 at the even place; 18 22 26: 26 stays, 22 at the odd place goes up.
        levelIs(room, 0, 1, 26);
        levelIs(room, 0, 2, 10, 22);
        Check.same("five compactions of 0, two of 1", 5L + 2 * 2, room.error(0));
    }

    private static void likeItemsInLevels() {
        Check.about("'q'");
        Sketchery room = Check.room('q', 2, 0, 0, 65535, 65535, 65535);
        levelIs(room, 0, 0, 65535);
        levelIs(room, 0, 1, 65535);
        Check.same("all three are not greater", 65535, room.quantile(0, 100));
        Check.same("none is lower", 0L, room.rank(0, 65535));
        Sketchery zeros = Check.room('q', 2, 0, 0, 0, 0, 0, 0, 0);
        levelIs(zeros, 0, 0, 0);
        levelIs(zeros, 0, 1, 0, 0);
        Check.same("all are lower than 1", 5L, zeros.rank(0, 1));
        Check.same("none is lower than 0", 0L, zeros.rank(0, 0));
    }

    private static void levelsMergeFromTheLowest() {
        Check.about("'q' merged");
        Sketchery room = two('q', 2, 0, 0);
        Check.add(room, 0, 1, 1, 2, 3, 4, 5, 6);
        Check.add(room, 1, 1, 11, 12, 13, 14, 15, 16);
        levelIs(room, 0, 0, 5, 6);
        levelIs(room, 0, 1, 1, 4);
        Check.same("seen", 12L, room.merge(0, 1));
        // 5 6 15 16: none stays, 5 and 15 go up. 1 4 5 11 14 15: 1, 5 and 14 go up. 14 stays, 1 goes up.
        levelIs(room, 0, 0);
        levelIs(room, 0, 1);
        levelIs(room, 0, 2, 14);
        levelIs(room, 0, 3, 1);
        Check.same("two and two compactions, and 1, 2 and 4", 4L + 7, room.error(0));
        levelIs(room, 1, 0, 15, 16);
        levelIs(room, 1, 1, 11, 14);
        Check.same("the other one's error stays", 2L, room.error(1));
        Check.same("sound", true, room.isSound());
    }

    private static void levelsMergeAboveOwn() {
        Check.about("'q' merged");
        Sketchery room = two('q', 2, 0, 0);
        room.sketch('q', 2, 0, 0);
        Check.add(room, 0, 1, 100);
        for (int item = 1; item <= 25; item++) {
            Check.add(room, 1, 1, item);
            Check.add(room, 2, 1, item);
        }
        room.merge(0, 1);
        int levels = 0;
        long stands = 0;
        for (int level = 0; level < 8; level++) {
            stands += (long) room.kept(0, level) << level;
            levels += room.kept(0, level) > 0 ? 1 : 0;
        }
        Check.same("levels that it did not have", true, levels > 2);
        Check.same("all that was seen", 26L, stands);
        Check.same("100 is the greatest one", 100, room.quantile(0, 100));
        Check.same("the other one stays", true, room.isSame(1, 2));
        room.merge(1, 0);
        Check.same("into more levels than its own", 51L, room.rank(1, 65535));
    }

    private static void turnsStay() {
        Check.about("'q', turns");
        Sketchery room = two('q', 2, 0, 0);
        Check.add(room, 0, 1, 10, 20, 30);
        room.merge(1, 0);
        levelIs(room, 1, 0, 30);
        levelIs(room, 1, 1, 10);
        Check.same("the same but for turns", false, room.isSame(0, 1));
        Check.add(room, 0, 1, 14, 24);
        Check.add(room, 1, 1, 14, 24);
        levelIs(room, 0, 1, 10, 24);
        levelIs(room, 1, 1, 10, 14);
        Sketchery late = two('q', 2, 0, 0);
        Check.add(late, 0, 1, 10, 20, 30);
        late.merge(0, 1);
        Check.add(late, 0, 1, 14, 24);
        levelIs(late, 0, 1, 10, 24);
    }

    /** Each compaction of a level moves ranks by what an item of it stands for, at most. */
    private static void ranksAreWithinTheError() {
        Check.about("'q', with bounds");
        for (int size = 2; size <= 16; size += 2) {
            Sketchery room = two('q', size, 0, 0);
            int[] seen = new int[65536];
            for (int i = 0; i < 80; i++) {
                int item = i * i * 7919 % 65536;
                room.wipe();
                room.typeRow(item, 0, 1 + i % 3);
                room.addTyped(i % 2, 1);
                seen[item] += 1 + i % 3;
            }
            room.merge(0, 1);
            long error = room.error(0);
            long below = 0;
            for (int item = 0; item < 65536; item++) {
                if (item % 800 == 0) {
                    long distance = Math.abs(room.rank(0, item) - below);
                    Check.same("the rank of " + item + " is away by " + distance, true, distance <= error);
                }
                below += seen[item];
            }
        }
    }

    private static void levelsAboveAnInt() {
        Check.about("'q', as longs");
        Sketchery room = two('q', 16, 0, 0);
        room.typeRow(0, 1637, 40);
        room.addTyped(0, 1);
        room.addTyped(1, 1);
        long seen = 0;
        int merges = 0;
        while (seen < 1L << 40) {
            seen = room.merge(merges % 2, 1 - merges % 2);
            merges++;
        }
        int last = 1 - merges % 2;
        long stands = 0;
        int highest = 0;
        for (int level = 0; level < 64; level++) {
            stands += (long) room.kept(last, level) << level;
            highest = room.kept(last, level) > 0 ? level : highest;
        }
        Check.same("a level above 31", true, highest > 31);
        Check.same("what items stand for", seen, stands);
        Check.same("all are lower", seen, room.rank(last, 65535));
        Check.same("an error above an int", true, room.error(last) > Integer.MAX_VALUE);
        for (int share = 1; share <= 100; share++) {
            int item = room.quantile(last, share);
            long below = room.rank(last, item);
            long upTo = room.rank(last, item + 1);
            boolean isLeast = below * 100 < share * seen && upTo * 100 >= share * seen;
            Check.same("the share " + share, true, isLeast);
        }
        Check.same("sound", true, room.isSound());
    }

    /** Beyond a long all sums are those of Java: what items stand for, the weight seen, and the error. */
    private static void levelsAboveALong() {
        Check.about("'q', as longs");
        Sketchery room = two('q', 2, 0, 0);
        PlainRoom plain = new PlainRoom();
        plain.sketch('q', 2, 0, 0);
        plain.sketch('q', 2, 0, 0);
        for (int sketch = 0; sketch < 2; sketch++) {
            room.typeRow(sketch * 9, 1, 9);
            plain.typeRow(sketch * 9, 1, 9);
            room.addTyped(sketch, 1);
            plain.addTyped(sketch, 1);
        }
        int below = 0;
        for (int i = 0; i < 110; i++) {
            int into = i % 2;
            int other = 1 - into;
            long seen = plain.merge(into, other);
            Check.same("the weight seen after " + i, seen, room.merge(into, other));
            Check.same("what all items stand for after " + i, seen, room.rank(into, 65535));
            Check.same("the error after " + i, plain.error(into), room.error(into));
            Check.same("sound after " + i, true, room.isSound());
            below += seen < 0 ? 1 : 0;
        }
        Check.same("some weights are below 0", true, below > 0);
        for (int level = 60; level < 70; level++) {
            Check.same("kept on " + level, plain.kept(0, level), room.kept(0, level));
        }
    }

    /** By the words of the document: the least item kept that has enough, of each share. */
    private static void quantilesOfFew() {
        Check.about("promise 21");
        int[] many = {1, 2, 3, 4, 5, 7, 10, 16, 17, 33, 50, 99, 100, 101, 117, 149, 150, 199, 200, 201, 250, 399, 400, 401};
        for (int size = 2; size <= 16; size += 14) {
            for (int all : many) {
                Sketchery room = Check.room('q', size, 0, 0);
                for (int left = all; left > 0; left -= 40) {
                    room.wipe();
                    room.typeRow(left * 101 % 65536, 7919, Math.min(left, 40));
                    room.addTyped(0, 1);
                }
                for (int share = 0; share <= 100; share++) {
                    int item = room.quantile(0, share);
                    boolean hasEnough = room.rank(0, item + 1) * 100 >= (long) share * all;
                    boolean isLeast = share == 0 ? room.rank(0, item) == 0 : room.rank(0, item) * 100 < (long) share * all;
                    Check.same("the share " + share + " of " + all, true, hasEnough && isLeast);
                }
            }
        }
    }

    private static void sampleOfOne() {
        Check.about("'s'");
        int[] met = new int[2];
        for (int seed = 0; seed < 200; seed++) {
            Sketchery room = Check.room('s', 1, 0, seed, 7);
            Check.same("the first item fills it", 7, room.sampleAt(0, 0));
            Check.add(room, 0, 1000, 8);
            int drawn = (seed * 1103515245 + 12345 >>> 16) % 2;
            met[drawn]++;
            Check.same("the second one draws", drawn == 0 ? 8 : 7, room.sampleAt(0, 0));
        }
        Check.same("some take the place, some do not", true, met[0] > 50 && met[1] > 50);
    }

    /** The first place behind the sample is none of it, the last one of it is. */
    private static void sampleDraws() {
        Check.about("'s'");
        for (int size = 1; size <= 10; size++) {
            boolean isLast = false;
            boolean isNext = false;
            boolean isBelow = false;
            for (int seed = 65535; seed > 65527; seed--) {
                Sketchery room = Check.room('s', size, 0, seed);
                int[] due = new int[size];
                int z = seed;
                for (int n = 1; n <= 25; n++) {
                    Check.add(room, 0, 1, 65536 - n);
                    int place = n - 1;
                    if (n > size) {
                        z = z * 1103515245 + 12345;
                        place = (z >>> 16) % n;
                        isBelow = isBelow || z < 0;
                        isLast = isLast || place == size - 1;
                        isNext = isNext || place == size;
                    }
                    if (place < size) {
                        due[place] = 65536 - n;
                    }
                    for (int i = 0; i < size && i < n; i++) {
                        Check.same("the place " + i + " after " + n, due[i], room.sampleAt(0, i));
                    }
                }
            }
            Check.same("the last place was drawn, the next one, and z was below 0", true, isLast && isNext && isBelow);
        }
    }

    private static void sampleOfManyAtOnce() {
        Check.about("'s'");
        Sketchery room = two('s', 10, 0, 65535);
        room.typeRow(65535, 65535, 40);
        room.addTyped(0, 1);
        room.wipe();
        for (int i = 0; i < 40; i++) {
            Check.add(room, 1, 1000, 65535 - i);
        }
        Check.same("at once, or one behind the other", true, room.isSame(0, 1));
        Check.refuses("it is not merged", Check.UNSUPPORTED, () -> room.merge(0, 1));
        Check.same("seen", 40L, room.seen(0));
    }

    private static void windowAges() {
        Check.about("'w'");
        for (int ticks : new int[] {2, 3, 999, 1000}) {
            for (int later : new int[] {ticks - 1, ticks, ticks + 1, 2000}) {
                Sketchery room = new Sketchery();
                room.tick(7);
                room.sketch('w', ticks, 1, 0);
                Check.add(room, 0, 1, 5);
                room.tick(later);
                Check.same(later + " ticks ago of " + ticks, later < ticks ? 1 : 0, room.within(0));
                Check.elements(later + " ticks ago of " + ticks + ", bucket", later < ticks ? 1 : 0,
                    index -> room.bucketAt(0, index));
            }
            Sketchery steps = Check.room('w', ticks, 4, 0, 1);
            steps.tick(1);
            Check.add(steps, 0, 1, 2);
            if (ticks > 2) {
                steps.tick(ticks - 2);
            }
            Check.same("both are within " + ticks, 2, steps.within(0));
            steps.tick(1);
            Check.same("the older one is gone", 1, steps.within(0));
            steps.tick(1);
            Check.same("both are gone", 0, steps.within(0));
        }
    }

    private static void windowOfOneTick() {
        Check.about("'w' of one tick");
        Sketchery room = Check.room('w', 1, 1, 0, 1, 2, 3);
        Check.same("the present time is within", 2, room.within(0));
        room.tick(1);
        Check.same("the last one is not", 0, room.within(0));
        Check.add(room, 0, 1, 1);
        Check.same("a new one is", 1, room.within(0));
        Check.same("four were seen", 4L, room.seen(0));
    }

    private static void bucketsAre(Sketchery room, int sketch, int... sizes) {
        for (int i = 0; i < sizes.length; i++) {
            Check.same("bucket " + i + " of " + sizes.length, sizes[i], room.bucketAt(sketch, i));
        }
        Check.refuses("no bucket " + sizes.length, Check.NONE, () -> room.bucketAt(sketch, sizes.length));
    }

    private static void windowJoins() {
        Check.about("'w'");
        for (int second = 1; second <= 4; second++) {
            Sketchery room = Check.room('w', 10, second, 0);
            for (int i = 0; i < second; i++) {
                Check.add(room, 0, 1, i);
                room.tick(1);
            }
            Check.elements("as many as may be of a size,", second, index -> room.bucketAt(0, index));
            Check.same("none is joined", 1, room.bucketAt(0, 0));
            Check.add(room, 0, 1, 9);
            Check.elements("one more than may be of a size,", second, index -> room.bucketAt(0, index));
            Check.same("the two oldest are one", 2, room.bucketAt(0, 0));
            // The time is that of the younger one of both, which is 1.
            room.tick(10 - second);
            Check.same("ten ticks after the older one", 2, room.bucketAt(0, 0));
            room.tick(1);
            int left = second == 1 ? 0 : second - 1;
            Check.elements("ten ticks after the younger one,", left, index -> room.bucketAt(0, index));
        }
        Sketchery chain = Check.room('w', 1000, 1, 0);
        for (int i = 0; i < 31; i++) {
            Check.add(chain, 0, 1, i);
        }
        bucketsAre(chain, 0, 16, 8, 4, 2, 1);
        Check.add(chain, 0, 1, 65535);
        bucketsAre(chain, 0, 32);
        Check.same("the half of one", 16, chain.within(0));
    }

    private static void windowLetsSomeGo() {
        Check.about("'w'");
        Sketchery room = Check.room('w', 10, 2, 0);
        for (int i = 0; i < 7; i++) {
            Check.add(room, 0, 1, i);
            room.tick(1);
        }
        // 2 of the times 0 and 1, 2 of 2 and 3, 2 of 4 and 5, which make 4 at 3, and 2 at 5; 1 at 6.
        bucketsAre(room, 0, 4, 2, 1);
        Check.add(room, 0, 1, 7);
        bucketsAre(room, 0, 4, 2, 1, 1);
        room.tick(5);
        bucketsAre(room, 0, 4, 2, 1, 1);
        room.tick(1);
        // Ten ticks after the time 3.
        bucketsAre(room, 0, 2, 1, 1);
        Check.same("the count of those left", 3, room.within(0));
        room.tick(2);
        bucketsAre(room, 0, 1, 1);
        room.tick(1);
        bucketsAre(room, 0, 1);
        Check.add(room, 0, 1, 8, 9);
        // 1 of the time 7, and two of 16: the oldest two are one at 16.
        bucketsAre(room, 0, 2, 1);
        room.tick(9);
        bucketsAre(room, 0, 2, 1);
        Check.same("sound", true, room.isSound());
        room.tick(1);
        bucketsAre(room, 0);
        Check.same("nothing left", 0, room.within(0));
        Check.same("ten were seen", 10L, room.seen(0));
    }

    private static void windowsOfOneTime() {
        Check.about("'w', the time for all windows");
        Sketchery room = new Sketchery();
        room.sketch('w', 1, 2, 0);
        room.sketch('w', 2, 2, 0);
        room.tick(2000);
        room.sketch('w', 3, 2, 0);
        room.sketch('w', 3, 2, 0);
        for (int sketch = 0; sketch < 4; sketch++) {
            Check.add(room, sketch, 1, 5);
        }
        Check.same("of one make, at one time", true, room.isSame(2, 3));
        room.tick(1);
        int[][] due = {{0, 1, 1, 1}, {0, 0, 1, 1}, {0, 0, 0, 0}};
        for (int[] each : due) {
            for (int sketch = 0; sketch < 4; sketch++) {
                Check.same("the window " + sketch, each[sketch], room.within(sketch));
            }
            room.tick(1);
        }
        Check.refuses("it is not merged", Check.UNSUPPORTED, () -> room.merge(2, 3));
    }

    private static void windowAtTheEndOfTime() {
        Check.about("'w' at the end of time");
        Sketchery room = Check.room('w', 1000, 1, 0);
        for (int i = 0; i < 49; i++) {
            room.tick(2000);
        }
        room.tick(1000);
        Check.add(room, 0, 1, 1);
        room.tick(999);
        Check.add(room, 0, 1, 2);
        bucketsAre(room, 0, 2);
        Check.refuses("the time is at its end", Check.STATE, () -> room.tick(1));
        bucketsAre(room, 0, 2);
        Check.add(room, 0, 1, 3);
        bucketsAre(room, 0, 2, 1);
        room.sketch('w', 1, 1, 0);
        Check.add(room, 1, 1, 3);
        Check.same("a new window", 1, room.within(1));
        Check.same("sound", true, room.isSound());
    }

    private static void leastHashesAreSigned() {
        Check.about("'m', as a signed int");
        for (int seed : new int[] {0, 65520, 65535}) {
            Sketchery room = Check.room('m', 16, 0, seed);
            int[] due = new int[16];
            int signs = 0;
            for (int item : new int[] {0, 1, 2, 3, 65535, 4, 1, 0}) {
                Check.add(room, 0, 1000, item);
                for (int i = 0; i < 16; i++) {
                    int hash = PlainRoom.hash(item, seed + i);
                    signs |= hash < 0 ? 1 : 2;
                    due[i] = item == 0 && room.seen(0) == 1 ? hash : Math.min(due[i], hash);
                    Check.same("the least hash by " + (seed + i), due[i], room.leastAt(0, i));
                }
            }
            Check.same("hashes of both signs", 3, signs);
        }
    }

    private static void leastHashesMerge() {
        Check.about("'m' merged");
        Sketchery room = two('m', 16, 0, 65535);
        Check.add(room, 0, 1, 1, 2, 3);
        Check.add(room, 1, 1, 3, 4, 65535);
        int[] due = new int[16];
        int own = 0;
        for (int i = 0; i < 16; i++) {
            due[i] = Math.min(room.leastAt(0, i), room.leastAt(1, i));
            own += room.leastAt(0, i) < room.leastAt(1, i) ? 1 : 0;
        }
        Check.same("some are lesser here, some there", true, own > 0 && own < 16);
        int like = room.likeness(0, 1);
        room.merge(0, 1);
        for (int i = 0; i < 16; i++) {
            Check.same("the lesser one at " + i, due[i], room.leastAt(0, i));
        }
        Check.same("like the other one where that was lesser or like", 16 - own, room.likeness(0, 1));
        Check.same("some were like", true, like <= 16 - own);
    }

    /** Thirds of one cell and of twenty, by seeds above 65535. */
    private static void cellsOfThirds() {
        Check.about("'i'");
        for (int cells : new int[] {3, 6, 57, 60}) {
            for (int seed : new int[] {0, 65532, 65535}) {
                for (int item : new int[] {0, 1, 65535}) {
                    Sketchery room = two('i', cells, 0, seed);
                    Check.add(room, 0, 1000, item);
                    Check.same("one in " + cells, 1, room.peeled(0, true));
                    Check.same("the item", item, room.peeledAt(0, true, 0));
                    Check.same("in three cells", 3, room.subtract(0, 1));
                    Check.same("clean", true, room.isClean(0));
                    twoItems(room, cells, seed, item, item == 0 ? 65535 : item - 1);
                }
            }
        }
    }

    /** Two items are peeled but where they have all three cells in common. */
    private static void twoItems(Sketchery room, int cells, int seed, int one, int two) {
        int third = cells / 3;
        int common = 0;
        int first = cells;
        int ahead = one;
        for (int part = 2; part >= 0; part--) {
            int at = ItemSums.cell(one, seed, third, part);
            int other = ItemSums.cell(two, seed, third, part);
            common += at == other ? 1 : 0;
            if (at != other) {
                ahead = at < other ? one : two;
                first = Math.min(at, other);
            }
        }
        Check.add(room, 0, 1, two);
        Check.same("cells in common", 6 - common, room.subtract(0, 1));
        Check.same("two", common == 3 ? 0 : 2, room.peeled(0, true));
        if (first < cells) {
            Check.same("the first cell is peeled first", ahead, room.peeledAt(0, true, 0));
        }
    }

    /** Two items with two cells in common: the one third where they part is enough for both. */
    private static void peelsByOneThirdAlone() {
        Check.about("'i', a cell of one third alone");
        for (int part = 0; part < 3; part++) {
            int two = 1;
            while (!partIn(part, 0, two)) {
                two++;
            }
            Sketchery room = two('i', 60, 0, 9);
            Check.add(room, 0, 1, 0, two);
            Check.add(room, 1, 1, two, two, 0);
            boolean isAhead = ItemSums.cell(0, 9, 20, part) < ItemSums.cell(two, 9, 20, part);
            Check.same("both are peeled by the third " + part, 2, room.peeled(0, true));
            Check.same("the first one", isAhead ? 0 : two, room.peeledAt(0, true, 0));
            Check.same("the other one", isAhead ? two : 0, room.peeledAt(0, true, 1));
            Check.same("clean", true, room.isClean(0));
            room.subtract(0, 1);
            Check.same("one lacks", two, room.peeledAt(0, false, 0));
            room.subtract(0, 1);
            // 0 lacks once, and the other one thrice: one alone is peeled, where they part.
            Check.same("one of both lacks", 1, room.peeled(0, false));
            Check.same("none is there", 0, room.peeled(0, true));
            Check.same("thrice is too often", false, room.isClean(0));
        }
    }

    private static boolean partIn(int part, int one, int two) {
        for (int i = 0; i < 3; i++) {
            if (ItemSums.cell(one, 9, 20, i) == ItemSums.cell(two, 9, 20, i) == (i == part)) {
                return false;
            }
        }
        return true;
    }

    private static void cellCounts() {
        Check.about("'i'");
        for (int there = 0; there <= 4; there++) {
            for (int lacking = 0; lacking <= 4; lacking++) {
                Sketchery room = two('i', 60, 0, 7);
                for (int i = 0; i < there; i++) {
                    Check.add(room, 0, 1, 65535);
                }
                for (int i = 0; i < lacking; i++) {
                    Check.add(room, 1, 1, 65535);
                }
                int count = there - lacking;
                Check.same("cells with a count of " + count, count == 0 ? 0 : 3, room.subtract(0, 1));
                Check.same("there, with a count of " + count, count == 1 ? 1 : 0, room.peeled(0, true));
                Check.same("lacking, with a count of " + count, count == -1 ? 1 : 0, room.peeled(0, false));
                Check.same("clean, with a count of " + count, count >= -1 && count <= 1, room.isClean(0));
            }
        }
    }

    /** The sums of the cells 0, 2 and 4 are those of an item of the cells 1, 3 and 5, with a count of 1. */
    private static void cellsOfAnotherItem() {
        Check.about("'i', an item that goes there");
        int seed = 3;
        int x = 0;
        while (!ItemSums.goesTo(x, seed, 2, 1, 3, 5)) {
            x++;
        }
        List<Integer> items = ItemSums.itemsFor(x, seed, item -> ItemSums.goesTo(item, seed, 2, 0, 2, 4));
        for (int isThere = 0; isThere < 2; isThere++) {
            Sketchery room = two('i', 6, 0, seed);
            int half = items.size() / 2 + isThere;
            for (int i = 0; i < items.size(); i++) {
                Check.add(room, i < half ? 0 : 1, 1, items.get(i));
            }
            Check.same("three cells", 3, room.subtract(0, 1));
            Check.same("none is there", 0, room.peeled(0, true));
            Check.same("none is lacking", 0, room.peeled(0, false));
            Check.same("not clean", false, room.isClean(0));
        }
    }

    private static void cellsMerge() {
        Check.about("'i' merged");
        Sketchery room = two('i', 60, 0, 65535);
        Check.add(room, 0, 1, 0, 65535);
        Check.add(room, 1, 1, 65535, 5);
        room.merge(0, 1);
        // 65535 has a count of 2, and a sum of 0.
        Check.same("0 and 5 alone", 2, room.peeled(0, true));
        Check.same("65535 is left", false, room.isClean(0));
        room.subtract(0, 1);
        Check.same("0 and 65535 again", 2, room.peeled(0, true));
        Check.same("clean again", true, room.isClean(0));
        Check.same("the weight seen stays", 4L, room.seen(0));
        room.subtract(0, 1);
        Check.same("5 lacks", 5, room.peeledAt(0, false, 0));
        Check.same("0 is there", 0, room.peeledAt(0, true, 0));
    }

    /**
     * An item x is alone in the cell 0, and in the cell 2 with others that sum to it: the count there
     * is 0, and all sums. Peeling takes x from the cell 0, lacks it in the cell 2, and begins again.
     */
    private static void endlessPeeling() {
        Check.about("'i', at most 200");
        int seed = 5;
        int x = 0;
        while (!ItemSums.goesTo(x, seed, 2, 0, 2)) {
            x++;
        }
        List<Integer> items = ItemSums.itemsFor(x, seed, item -> ItemSums.goesTo(item, seed, 2, 1, 2));
        int half = items.size() / 2;
        Sketchery room = new Sketchery();
        room.sketch('i', 6, 0, seed);
        room.sketch('i', 6, 0, seed);
        Check.add(room, 0, 1, x);
        for (int i = 0; i < items.size(); i++) {
            Check.add(room, i < half ? 0 : 1, 1, items.get(i));
        }
        room.subtract(0, 1);
        Check.same("200 at most, there", 100, room.peeled(0, true));
        Check.same("200 at most, lacking", 100, room.peeled(0, false));
        Check.same("the last one there", x, room.peeledAt(0, true, 99));
        Check.same("the last one lacking", x, room.peeledAt(0, false, 99));
        Check.refuses("no more there", Check.NONE, () -> room.peeledAt(0, true, 100));
        Check.refuses("no more lacking", Check.NONE, () -> room.peeledAt(0, false, 100));
        Check.same("not clean", false, room.isClean(0));
    }

    private static void cellCountsWrap() {
        Check.about("'i', counts as longs");
        Sketchery room = two('i', 3, 0, 0);
        Check.add(room, 0, 1, 5);
        boolean isBelow = false;
        for (int i = 0; i < 60; i++) {
            room.merge(1, 0);
            room.merge(0, 1);
            long sum = 7L * 31 + room.seen(0);
            sum = (sum * 31 + 3 * room.seen(0)) * 31 + room.seen(1);
            Check.same("three counts of what was seen, after " + i, sum * 31 + 3 * room.seen(1), room.checksum());
            isBelow = isBelow || room.seen(0) < 0;
        }
        Check.same("which wraps around", true, isBelow);
    }
}
