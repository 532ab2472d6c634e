/** The examples of 'Terms'. */
public final class ExamplesTest {
    public static void main(String[] arguments) {
        heavy();
        quantiles();
        window();
        sample();
        Check.end("ExamplesTest");
    }

    private static void heavy() {
        Check.about("the example of 'h'");
        Sketchery room = new Sketchery();
        Check.same("sketch", 0, room.sketch('h', 1, 0, 0));
        Check.same("type", 1, room.type(3));
        Check.same("type", 2, room.type(4));
        Check.same("type", 3, room.type(3));
        Check.same("addTyped", 3, room.addTyped(0, 2));
        Check.same("count", 2L, room.count(0, 3));
        Check.same("error", 2L, room.error(0));
        Check.same("seen", 6L, room.seen(0));
    }

    private static void quantiles() {
        Check.about("the example of 'q'");
        Sketchery room = new Sketchery();
        Check.same("sketch", 0, room.sketch('q', 2, 0, 0));
        Check.same("type", 1, room.type(5));
        Check.same("type", 2, room.type(1));
        Check.same("type", 3, room.type(9));
        Check.same("addTyped", 3, room.addTyped(0, 1));
        Check.same("kept", 1, room.kept(0, 0));
        Check.same("kept", 1, room.kept(0, 1));
        Check.same("keptAt", 1, room.keptAt(0, 1, 0));
        Check.same("rank", 2L, room.rank(0, 9));
        Check.same("error", 1L, room.error(0));
    }

    private static void window() {
        Check.about("the example of 'w'");
        Sketchery room = new Sketchery();
        Check.same("sketch", 0, room.sketch('w', 5, 1, 0));
        Check.same("typeRow", 3, room.typeRow(0, 0, 3));
        Check.same("addTyped", 3, room.addTyped(0, 1));
        Check.same("bucketAt", 2, room.bucketAt(0, 0));
        Check.same("within", 2, room.within(0));
        Check.same("tick", 5, room.tick(5));
        Check.same("within", 0, room.within(0));
    }

    private static void sample() {
        Check.about("the example of 's' and 'm'");
        Sketchery room = new Sketchery();
        Check.same("sketch", 0, room.sketch('s', 2, 0, 0));
        Check.same("typeRow", 2, room.typeRow(1, 1, 2));
        Check.same("addTyped", 2, room.addTyped(0, 1));
        Check.same("sampleAt", 2, room.sampleAt(0, 1));
        Check.same("hash", 0, room.hash(0, 0));
        Check.same("sketch", 1, room.sketch('m', 3, 0, 0));
        Check.same("likeness", 3, room.likeness(1, 1));
    }
}
