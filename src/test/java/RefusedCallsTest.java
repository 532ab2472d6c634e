import java.util.function.Function;
import java.util.function.Supplier;

/**
 * Each call of the face with numbers in and out of range, in rooms with nothing, something and all that may be: of
 * the exceptions that apply the one documented first is thrown, and behind it nothing has changed. Nor does a call
 * that only answers change anything.
 */
public final class RefusedCallsTest {
    private static final String KINDS = "fdhcqswmif";
    private static final int[] SKETCHES = {-1, 0, 1, 2, 3, 4, 5, 6, 7, 8, 9, 10, Integer.MIN_VALUE, Integer.MAX_VALUE};
    private static final int[] ITEMS = {-1, 0, 2, 65535, 65536, Integer.MIN_VALUE, Integer.MAX_VALUE};
    private static final int[] INDEXES = {-1, 0, 1, 2, 3, 4, 8, 60, Integer.MIN_VALUE, Integer.MAX_VALUE};

    private final Room room;
    private final String untouched;

    /** A room that can be made again and again, and what is known of it. */
    private record Room(String name, int sketches, boolean hasSeen, int typed, int time, Supplier<Sketchery> maker) {
        char kindOf(int sketch) {
            return KINDS.charAt(sketch);
        }
    }

    private RefusedCallsTest(Room room) {
        this.room = room;
        untouched = transcript(room.maker.get());
    }

    public static void main(String[] arguments) {
        Room[] rooms = {
            new Room("an empty room", 0, false, 0, 0, Sketchery::new),
            new Room("a room of new sketches", 9, false, 0, 0, () -> made(9)),
            new Room("a room of ten sketches", 10, true, 3, 10, () -> seeing(made(10), 10, 3)),
            new Room("a full room", 10, true, 40, 99999, () -> seeing(made(10), 99999, 40))
        };
        for (Room each : rooms) {
            RefusedCallsTest test = new RefusedCallsTest(each);
            test.makingCalls();
            test.typingCalls();
            test.callsOfSketches();
            test.callsWithItems();
            test.callsWithIndexes();
            test.callsOfPairs();
            test.callsOfLevels();
            test.callsOfFailures();
        }
        for (char kind : "fdhcqswmi".toCharArray()) {
            pairsOf(kind);
        }
        Check.end("RefusedCallsTest");
    }

    private static Sketchery made(int many) {
        Sketchery made = new Sketchery();
        int[] sizes = {8, 4, 8, 4, 4, 8, 8, 4, 60, 9};
        int[] seconds = {1, 0, 0, 2, 0, 0, 2, 0, 0, 1};
        for (int i = 0; i < many; i++) {
            made.sketch(KINDS.charAt(i), sizes[i], seconds[i], 0);
        }
        return made;
    }

    /** At a time, each sketch sees 1, 2 and 3, and as many as told are typed then. */
    private static Sketchery seeing(Sketchery made, int time, int typed) {
        for (int left = time; left > 0; left -= 2000) {
            made.tick(Math.min(left, 2000));
        }
        made.typeRow(1, 1, 3);
        for (int i = 0; i < 10; i++) {
            made.addTyped(i, 5);
        }
        if (typed > 3) {
            made.typeRow(4, 1, typed - 3);
        }
        return made;
    }

    /** What can be told of a room by some 350 calls, by which what is hidden at first comes to be seen, too. */
    private static String transcript(Sketchery room) {
        StringBuilder text = new StringBuilder();
        answers(room, text);
        addToAll(room, text);
        answers(room, text);
        tell(text, room::wipe);
        tell(text, () -> room.typeRow(100, 7, 12));
        addToAll(room, text);
        answers(room, text);
        tell(text, () -> room.tick(1));
        tell(text, room::checksum);
        tell(text, () -> room.sketch('m', 2, 0, 0));
        tell(text, room::checksum);
        tell(text, room::wipe);
        return text.toString();
    }

    private static void tell(StringBuilder text, Check.Call call) {
        text.append(Check.outcome(call)).append(' ');
    }

    private static void addToAll(Sketchery room, StringBuilder text) {
        for (int i = 0; i < 10; i++) {
            int sketch = i;
            tell(text, () -> room.addTyped(sketch, 2));
        }
    }

    private static void answers(Sketchery room, StringBuilder text) {
        tell(text, room::checksum);
        tell(text, room::isSound);
        tell(text, room::seenShare);
        for (int i = 0; i < 10; i++) {
            int sketch = i;
            Object kind = Check.outcome(() -> room.kind(sketch));
            text.append(kind).append(':');
            tell(text, () -> room.seen(sketch));
            if (kind instanceof Character) {
                answersOf(room, (char) (Character) kind, sketch, text);
            }
        }
    }

    private static void answersOf(Sketchery room, char kind, int sketch, StringBuilder text) {
        if (kind == 'f') {
            tell(text, () -> room.ones(sketch));
        }
        if (kind == 'd') {
            tell(text, () -> room.distinct(sketch));
        }
        if (kind == 'h' || kind == 'q') {
            tell(text, () -> room.error(sketch));
        }
        if (kind == 'w') {
            tell(text, () -> room.within(sketch));
        }
        if (kind == 'i') {
            tell(text, () -> room.peeled(sketch, true));
            tell(text, () -> room.peeled(sketch, false));
            tell(text, () -> room.isClean(sketch));
        }
        int many = kind == 's' || kind == 'h' ? 8 : 4;
        for (int i = 0; i < many; i++) {
            int index = i;
            tell(text, () -> element(room, kind, sketch, index));
            if (kind == 'q') {
                tell(text, () -> room.keptAt(sketch, 1, index));
                tell(text, () -> room.kept(sketch, index));
            }
        }
    }

    private static Object element(Sketchery room, char kind, int sketch, int index) {
        return switch (kind) {
            case 'f' -> room.may(sketch, index);
            case 'd' -> room.register(sketch, index);
            case 'h' -> room.heavyAt(sketch, index) + " " + room.count(sketch, index);
            case 'c' -> room.count(sketch, index) + " " + room.excess(sketch, 1, index);
            case 'q' -> room.keptAt(sketch, 0, index);
            case 's' -> room.sampleAt(sketch, index);
            case 'w' -> room.bucketAt(sketch, index);
            case 'm' -> room.leastAt(sketch, index);
            default -> room.peeledAt(sketch, index % 2 == 0, index / 2);
        };
    }

    /** The first exception documented that applies, where the conditions stand in this order; or none. */
    private static Class<?> first(Object... conditionsAndExceptions) {
        for (int i = 0; i < conditionsAndExceptions.length; i += 2) {
            if ((Boolean) conditionsAndExceptions[i]) {
                return (Class<?>) conditionsAndExceptions[i + 1];
            }
        }
        return null;
    }

    /** A call that only answers. */
    private void asks(String what, Class<?> due, Function<Sketchery, Object> call) {
        Sketchery asked = room.maker.get();
        Object got = Check.outcome(() -> call.apply(asked));
        Check.same(what + " in " + room.name, due, got instanceof Class ? got : null);
        Check.same("nothing changes behind " + what + " in " + room.name, true, untouched.equals(transcript(asked)));
    }

    /** A call that changes something, if it is not refused. */
    private void does(String what, Class<?> due, Function<Sketchery, Object> call) {
        if (due != null) {
            asks(what, due, call);
            return;
        }
        Sketchery changed = room.maker.get();
        Check.takes(what + " in " + room.name, () -> call.apply(changed));
    }

    private boolean isNone(int sketch) {
        return sketch < 0 || sketch >= room.sketches;
    }

    private boolean isOf(int sketch, String kinds) {
        return !isNone(sketch) && kinds.indexOf(room.kindOf(sketch)) >= 0;
    }

    private static boolean isOut(int number, int least, int greatest) {
        return number < least || number > greatest;
    }

    private void makingCalls() {
        Check.about("promise 3");
        int[][] makes = {
            {'f', 8, 1, 0}, {'f', 7, 1, 0}, {'f', 257, 1, 0}, {'f', 8, 0, 0}, {'f', 8, 9, 0}, {'f', 8, 1, -1},
            {'f', 8, 1, 65536}, {'d', 4, 0, 65535}, {'d', 5, 0, 0}, {'d', 2, 0, 0}, {'d', 128, 0, 0}, {'d', 4, 1, 0},
            {'h', 8, 0, 0}, {'h', 0, 0, 0}, {'h', 9, 0, 0}, {'c', 64, 6, 0}, {'c', 65, 6, 0}, {'c', 64, 7, 0},
            {'c', 1, 1, 0}, {'c', 2, 0, 0}, {'q', 16, 0, 0}, {'q', 15, 0, 0}, {'q', 0, 0, 0}, {'q', 18, 0, 0},
            {'s', 10, 0, 0}, {'s', 11, 0, 0}, {'s', 0, 0, 0}, {'w', 1000, 4, 0}, {'w', 1001, 4, 0}, {'w', 0, 4, 0},
            {'w', 1, 0, 0}, {'w', 1, 5, 0}, {'m', 16, 0, 0}, {'m', 17, 0, 0}, {'m', 0, 0, 0}, {'i', 60, 0, 0},
            {'i', 63, 0, 0}, {'i', 0, 0, 0}, {'i', 4, 0, 0}, {'i', 3, -1, 0}, {'x', 8, 1, 0}, {0, 0, 0, 0}
        };
        String right = "f81 d40 h80 c646 q160 s100 w10004 m160 i600 ";
        for (int[] each : makes) {
            char kind = (char) each[0];
            String name = "sketch(" + kind + ", " + each[1] + ", " + each[2] + ", " + each[3] + ")";
            boolean isWrong = !right.contains(kind + "" + each[1] + each[2] + " ") || isOut(each[3], 0, 65535);
            does(name, first(isWrong, Check.ARGUMENT, room.sketches == 10, Check.STATE),
                made -> made.sketch(kind, each[1], each[2], each[3]));
        }
    }

    private void typingCalls() {
        for (int item : ITEMS) {
            boolean isWrong = isOut(item, 0, 65535);
            Check.about("promise 2");
            asks("hash(" + item + ", 0)", first(isWrong, Check.ARGUMENT), made -> made.hash(item, 0));
            asks("hash(0, " + item + ")", first(isWrong, Check.ARGUMENT), made -> made.hash(0, item));
            Check.about("promise 5");
            does("type(" + item + ")", first(isWrong, Check.ARGUMENT, room.typed == 40, Check.STATE),
                made -> made.type(item));
            Check.about("promise 6");
            for (int many : new int[] {-1, 0, 1, 36, 37, 38, 40, 41, Integer.MIN_VALUE, Integer.MAX_VALUE}) {
                boolean isOut = isWrong || isOut(many, 1, 40);
                Class<?> due = first(isOut, Check.ARGUMENT, room.typed + many > 40, Check.STATE);
                does("typeRow(" + item + ", 1, " + many + ")", due, made -> made.typeRow(item, 1, many));
                does("typeRow(1, " + item + ", " + many + ")", due, made -> made.typeRow(1, item, many));
            }
        }
        Check.about("promise 25");
        for (int ticks : new int[] {-1, 0, 1, 2000, 2001, Integer.MIN_VALUE, Integer.MAX_VALUE}) {
            boolean isLate = room.time == 99999;
            does("tick(" + ticks + ")", first(isOut(ticks, 1, 2000), Check.ARGUMENT, isLate, Check.STATE),
                made -> made.tick(ticks));
        }
        Check.about("promise 37");
        asks("seenShare()", first(room.sketches == 0, Check.ARITHMETIC), Sketchery::seenShare);
        Check.about("promise 38");
        asks("checksum()", null, Sketchery::checksum);
        Check.about("promise 39");
        asks("isSound()", null, Sketchery::isSound);
    }

    private void callsOfSketches() {
        for (int sketch : SKETCHES) {
            String at = "(" + sketch + ")";
            Check.about("promise 9");
            asks("kind" + at, first(isNone(sketch), Check.INDEX), made -> made.kind(sketch));
            Check.about("promise 10");
            asks("seen" + at, first(isNone(sketch), Check.INDEX), made -> made.seen(sketch));
            Check.about("promise 13");
            asks("ones" + at, ofKind(sketch, "f"), made -> made.ones(sketch));
            Check.about("promise 15");
            asks("distinct" + at, ofKind(sketch, "d"), made -> made.distinct(sketch));
            Check.about("promise 18");
            asks("error" + at, ofKind(sketch, "hq"), made -> made.error(sketch));
            Check.about("promise 26");
            asks("within" + at, ofKind(sketch, "w"), made -> made.within(sketch));
            Check.about("promise 31");
            asks("peeled" + at, ofKind(sketch, "i"), made -> made.peeled(sketch, true));
            asks("peeled" + at, ofKind(sketch, "i"), made -> made.peeled(sketch, false));
            Check.about("promise 33");
            asks("isClean" + at, ofKind(sketch, "i"), made -> made.isClean(sketch));
            Check.about("promise 4");
            for (int weight : new int[] {-1, 0, 1, 1000, 1001, Integer.MIN_VALUE, Integer.MAX_VALUE}) {
                does("addTyped(" + sketch + ", " + weight + ")",
                    first(isNone(sketch), Check.INDEX, isOut(weight, 1, 1000), Check.ARGUMENT),
                    made -> made.addTyped(sketch, weight));
            }
        }
    }

    private Class<?> ofKind(int sketch, String kinds) {
        return first(isNone(sketch), Check.INDEX, !isOf(sketch, kinds), Check.UNSUPPORTED);
    }

    private Class<?> ofItem(int sketch, int item, String kinds) {
        return first(isNone(sketch), Check.INDEX, isOut(item, 0, 65535), Check.ARGUMENT,
            !isOf(sketch, kinds), Check.UNSUPPORTED);
    }

    private void callsWithItems() {
        for (int sketch : SKETCHES) {
            for (int item : ITEMS) {
                String at = "(" + sketch + ", " + item + ")";
                Check.about("promise 12");
                asks("may" + at, ofItem(sketch, item, "f"), made -> made.may(sketch, item));
                Check.about("promise 16");
                asks("count" + at, ofItem(sketch, item, "hc"), made -> made.count(sketch, item));
                Check.about("promise 20");
                asks("rank" + at, ofItem(sketch, item, "q"), made -> made.rank(sketch, item));
                Check.about("promise 19");
                for (int row : new int[] {-1, 0, 1, 2, Integer.MIN_VALUE, Integer.MAX_VALUE}) {
                    Class<?> due = ofItem(sketch, item, "c");
                    asks("excess(" + sketch + ", " + row + ", " + item + ")",
                        due == null ? first(isOut(row, 0, 1), Check.NONE) : due,
                        made -> made.excess(sketch, row, item));
                }
            }
            for (int share : new int[] {-1, 0, 50, 100, 101, Integer.MIN_VALUE, Integer.MAX_VALUE}) {
                Check.about("promise 21");
                asks("quantile(" + sketch + ", " + share + ")",
                    first(isNone(sketch), Check.INDEX, isOut(share, 0, 100), Check.ARGUMENT,
                        !isOf(sketch, "q"), Check.UNSUPPORTED, !room.hasSeen, Check.NONE),
                    made -> made.quantile(sketch, share));
            }
        }
    }

    private Class<?> ofIndex(int sketch, String kinds, int index, int many) {
        return first(isNone(sketch), Check.INDEX, !isOf(sketch, kinds), Check.UNSUPPORTED,
            isOut(index, 0, many - 1), Check.NONE);
    }

    /** There are three items, of which two make one bucket in a window. */
    private void callsWithIndexes() {
        int three = room.hasSeen ? 3 : 0;
        for (int sketch : SKETCHES) {
            for (int index : INDEXES) {
                String at = "(" + sketch + ", " + index + ")";
                Check.about("promise 14");
                asks("register" + at, ofIndex(sketch, "d", index, 4), made -> made.register(sketch, index));
                Check.about("promise 17");
                asks("heavyAt" + at, ofIndex(sketch, "h", index, three), made -> made.heavyAt(sketch, index));
                Check.about("promise 24");
                asks("sampleAt" + at, ofIndex(sketch, "s", index, three), made -> made.sampleAt(sketch, index));
                Check.about("promise 27");
                asks("bucketAt" + at, ofIndex(sketch, "w", index, room.hasSeen ? 2 : 0),
                    made -> made.bucketAt(sketch, index));
                Check.about("promise 28");
                asks("leastAt" + at, ofIndex(sketch, "m", index, room.hasSeen ? 4 : 0),
                    made -> made.leastAt(sketch, index));
                Check.about("promise 32");
                asks("peeledAt there" + at, ofIndex(sketch, "i", index, three),
                    made -> made.peeledAt(sketch, true, index));
                asks("peeledAt lacking" + at, ofIndex(sketch, "i", index, 0),
                    made -> made.peeledAt(sketch, false, index));
            }
        }
    }

    private void callsOfLevels() {
        for (int sketch : SKETCHES) {
            for (int level : INDEXES) {
                Check.about("promise 22");
                asks("kept(" + sketch + ", " + level + ")",
                    first(isNone(sketch), Check.INDEX, level < 0, Check.ARGUMENT, !isOf(sketch, "q"), Check.UNSUPPORTED),
                    made -> made.kept(sketch, level));
                Check.about("promise 23");
                for (int index : new int[] {-1, 0, 2, 3, Integer.MIN_VALUE, Integer.MAX_VALUE}) {
                    int many = room.hasSeen && level == 0 ? 3 : 0;
                    asks("keptAt(" + sketch + ", " + level + ", " + index + ")", ofIndex(sketch, "q", index, many),
                        made -> made.keptAt(sketch, level, index));
                }
            }
        }
    }

    /** No two sketches of these rooms are of one make. */
    private void callsOfPairs() {
        for (int one : SKETCHES) {
            for (int two : SKETCHES) {
                String at = "(" + one + ", " + two + ")";
                boolean isNone = isNone(one) || isNone(two);
                Check.about("promise 8");
                asks("merge" + at, first(isNone, Check.INDEX, true, Check.UNSUPPORTED), made -> made.merge(one, two));
                Check.about("promise 11");
                asks("isSame" + at, first(isNone, Check.INDEX), made -> made.isSame(one, two));
                Check.about("promise 29");
                boolean isMake = one == two && isOf(one, "m");
                asks("likeness" + at, first(isNone, Check.INDEX, !isMake, Check.UNSUPPORTED),
                    made -> made.likeness(one, two));
                Check.about("promise 30");
                asks("subtract" + at, first(isNone, Check.INDEX, true, Check.UNSUPPORTED),
                    made -> made.subtract(one, two));
            }
        }
    }

    private void callsOfFailures() {
        int[][] all = {
            {8, 1, 0, 1}, {256, 8, 40, 500}, {7, 1, 0, 1}, {257, 1, 0, 1}, {8, 0, 0, 1}, {8, 9, 0, 1}, {8, 1, -1, 1},
            {8, 1, 41, 1}, {8, 1, 0, 0}, {8, 1, 0, 501}, {3, 0, 0, 100}, {60, 0, 40, 101}, {62, 0, 0, 1}, {61, 1, 2, 3}
        };
        for (int[] n : all) {
            String at = "(" + n[0] + ", " + n[1] + ", " + n[2] + ", " + n[3] + ")";
            boolean areItemsOut = isOut(n[2], 0, 40);
            Check.about("promise 34");
            boolean isOut = isOut(n[0], 8, 256) || isOut(n[1], 1, 8) || areItemsOut || isOut(n[3], 1, 500);
            asks("filterFailures" + at, first(isOut, Check.ARGUMENT),
                made -> made.filterFailures(n[0], n[1], n[2], n[3]));
            Check.about("promise 35");
            isOut = isOut(n[0], 3, 60) || n[0] % 3 != 0 || areItemsOut || isOut(n[3], 1, 100);
            asks("cellFailures" + at, first(isOut, Check.ARGUMENT), made -> made.cellFailures(n[0], n[2], n[3]));
            Check.about("promise 36");
            for (int most : new int[] {-1, 100, Integer.MIN_VALUE, Integer.MAX_VALUE}) {
                boolean isWrong = areItemsOut || isOut(n[3], 1, 100) || most < 0;
                asks("leastBits" + at + most, first(isWrong, Check.ARGUMENT),
                    made -> made.leastBits(n[2], n[3], most));
            }
        }
        int[][] none = {{40, 100, 0}, {40, 100, -1}, {40, 101, 0}, {41, 100, 0}, {-1, 0, -1}};
        for (int[] n : none) {
            boolean isRight = n[0] == 40 && n[1] == 100 && n[2] == 0;
            asks("leastBits(" + n[0] + ", " + n[1] + ", " + n[2] + ")", isRight ? Check.NONE : Check.ARGUMENT,
                made -> made.leastBits(n[0], n[1], n[2]));
        }
    }

    private static Sketchery madePairs(char kind) {
        Sketchery made = new Sketchery();
        int second = BoundsOfCallsTest.second(kind);
        int size = kind == 'i' ? 60 : 8;
        made.sketch(kind, size, second, 0);
        made.sketch(kind, size, second, 0);
        made.sketch(kind, size, second, 1);
        made.sketch(kind, kind == 'f' ? 9 : kind == 'i' ? 57 : 4, second, 0);
        made.sketch(kind == 'm' ? 'i' : 'm', 9, 0, 0);
        made.typeRow(1, 2, 9);
        for (int sketch = 0; sketch < 5; sketch++) {
            made.addTyped(sketch, 1 + sketch);
        }
        made.tick(1);
        made.wipe();
        made.typeRow(5, 1, 3);
        made.addTyped(1, 7);
        return made;
    }

    /** Two sketches of one make, one of another seed, and one of another size. */
    private static void pairsOf(char kind) {
        Room room = new Room("a room of '" + kind + "'", 5, true, 3, 1, () -> madePairs(kind));
        RefusedCallsTest test = new RefusedCallsTest(room);
        for (int one : new int[] {-1, 0, 1, 2, 3, 4, 5, 10, Integer.MIN_VALUE, Integer.MAX_VALUE}) {
            for (int two : new int[] {-1, 0, 1, 2, 3, 4, 5, 10, Integer.MIN_VALUE, Integer.MAX_VALUE}) {
                String at = "(" + one + ", " + two + ")";
                boolean isNone = isOut(one, 0, 4) || isOut(two, 0, 4);
                boolean isMake = one == two || !isOut(one, 0, 1) && !isOut(two, 0, 1);
                char first = one == 4 ? kind == 'm' ? 'i' : 'm' : kind;
                Check.about("promise 8");
                boolean isMerged = isMake && one != two && first != 's' && first != 'w';
                test.does("merge" + at, first(isNone, Check.INDEX, !isMerged, Check.UNSUPPORTED),
                    made -> made.merge(one, two));
                Check.about("promise 11");
                test.asks("isSame" + at, first(isNone, Check.INDEX), made -> made.isSame(one, two));
                Check.about("promise 29");
                test.asks("likeness" + at, first(isNone, Check.INDEX, !isMake || first != 'm', Check.UNSUPPORTED),
                    made -> made.likeness(one, two));
                Check.about("promise 30");
                boolean isTaken = isMake && one != two && first == 'i';
                test.does("subtract" + at, first(isNone, Check.INDEX, !isTaken, Check.UNSUPPORTED),
                    made -> made.subtract(one, two));
            }
        }
    }
}
