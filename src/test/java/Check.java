import java.util.Objects;
import java.util.function.IntFunction;

/** What the tests share: a call's answer or exception against the one that is due. */
final class Check {
    interface Call {
        Object answer();
    }

    static final Class<?> INDEX = IndexOutOfBoundsException.class;
    static final Class<?> ARGUMENT = IllegalArgumentException.class;
    static final Class<?> STATE = IllegalStateException.class;
    static final Class<?> UNSUPPORTED = UnsupportedOperationException.class;
    static final Class<?> NONE = java.util.NoSuchElementException.class;
    static final Class<?> ARITHMETIC = ArithmeticException.class;

    static final int[] WRONG_ITEMS = {-1, 65536, Integer.MIN_VALUE, Integer.MAX_VALUE};
    /** Of a room with nine sketches. */
    static final int[] WRONG_SKETCHES = {-1, 9, 10, Integer.MIN_VALUE, Integer.MAX_VALUE};

    private static int right = 0;
    private static int wrong = 0;
    private static String subject = "";

    private Check() {
    }

    /** Which promise or kind the next checks are about; each message begins with it. */
    static void about(String what) {
        subject = what + ": ";
    }

    static void same(String what, Object due, Object got) {
        if (Objects.equals(due, got)) {
            right++;
            return;
        }
        wrong++;
        System.out.println(subject + what + ": due is " + due + ", answered was " + got);
    }

    /** The class must be the very one, as a subclass may come from the machine itself. */
    static void refuses(String what, Class<?> due, Call call) {
        Object got;
        try {
            got = call.answer();
        } catch (RuntimeException thrown) {
            got = thrown.getClass();
        }
        same(what, due, got);
    }

    /** An answer, or the class of the exception thrown instead. */
    static Object outcome(Call call) {
        try {
            return call.answer();
        } catch (RuntimeException thrown) {
            return thrown.getClass();
        }
    }

    static void takes(String what, Call call) {
        Object got = outcome(call);
        same(what + (got instanceof Class ? " answers " + got : ""), false, got instanceof Class);
    }

    /** Both ends are taken; one less, one more and the ends of an int are refused. */
    static void range(String what, int least, int greatest, IntFunction<Object> call) {
        takes(what + " " + least, () -> call.apply(least));
        takes(what + " " + greatest, () -> call.apply(greatest));
        for (int beyond : new int[] {least - 1, greatest + 1, Integer.MIN_VALUE, Integer.MAX_VALUE}) {
            refuses(what + " " + beyond, ARGUMENT, () -> call.apply(beyond));
        }
    }

    /** There are as many elements, from 0 on, and no others. */
    static void elements(String what, int many, IntFunction<Object> call) {
        for (int i = 0; i < many; i++) {
            int index = i;
            takes(what + " " + index, () -> call.apply(index));
        }
        for (int beyond : new int[] {-1, many, many + 1, Integer.MIN_VALUE, Integer.MAX_VALUE}) {
            refuses(what + " " + beyond, NONE, () -> call.apply(beyond));
        }
    }

    /** A number that no sketch has, in a room with as many. */
    static void sketches(String what, int many, IntFunction<Object> call) {
        for (int beyond : new int[] {-1, many, 10, Integer.MIN_VALUE, Integer.MAX_VALUE}) {
            refuses(what + " of the sketch " + beyond, INDEX, () -> call.apply(beyond));
        }
    }

    static void end(String name) {
        System.out.println(name + ": " + right + " checks right, " + wrong + " wrong");
        if (wrong != 0) {
            System.exit(1);
        }
    }

    static Sketchery room(char kind, int size, int second, int seed, int... items) {
        Sketchery room = new Sketchery();
        room.sketch(kind, size, second, seed);
        add(room, 0, 1, items);
        return room;
    }

    /** One sketch of each of the nine kinds. */
    static Sketchery roomOfAllKinds() {
        Sketchery room = new Sketchery();
        room.sketch('f', 8, 1, 0);
        room.sketch('d', 8, 0, 0);
        room.sketch('h', 8, 0, 0);
        room.sketch('c', 8, 1, 0);
        room.sketch('q', 8, 0, 0);
        room.sketch('s', 8, 0, 0);
        room.sketch('w', 8, 1, 0);
        room.sketch('m', 8, 0, 0);
        room.sketch('i', 9, 0, 0);
        return room;
    }

    static void add(Sketchery room, int sketch, int weight, int... items) {
        for (int item : items) {
            room.wipe();
            room.type(item);
            room.addTyped(sketch, weight);
        }
        room.wipe();
    }
}
