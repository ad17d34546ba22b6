/** What the tests share: a comparison that is counted, shapes, and the end of a test. */
abstract class Check {
    static final int TRUTH = 0, BYTE = 1, SHORT = 2, CHAR = 3, INT = 4, LONG = 5, FLOAT = 6, DOUBLE = 7;
    static final int NOTHING = 8, THING = 9, BOX = 10, NUMBER = 18, ROW = 20;
    static final int BASE = 30, LEFT = 31, RIGHT = 32, LAST = 33, FAR = 34, CLASS_ROW = 40;
    static final int STATIC = 1, PRIVATE = 2, VARIED = 4, FINAL = 8;
    static final int NULL = -1, CAST = -2, INDEX = -3, STORE = -4, SIZE = -5, ZERO = -6, RAISED = -7, MISFIT = -8;
    static final int SPENT = -9, NO_ROOM = -10;
    static final int UNKNOWN = HandleMirror.UNKNOWN, OUTSIDE = HandleMirror.OUTSIDE, STATE = HandleMirror.STATE;
    static final int FULL = HandleMirror.FULL, NO_METHOD = HandleMirror.NO_METHOD, NO_FIELD = HandleMirror.NO_FIELD;
    static final int NO_ACCESS = HandleMirror.NO_ACCESS, WRONG_TYPE = HandleMirror.WRONG_TYPE, NONE = HandleMirror.NONE;
    static final int[] KINDS = {0, 1, 2, 3, 4, 5, 6, 7, 8, 9, 10, 11, 12, 13, 14, 15, 16, 17, 18,
        20, 21, 22, 23, 24, 25, 26, 27, 30, 31, 32, 33, 34, 40, 41, 42, 43, 44};

    private static int compared = 0;
    private static int wrong = 0;

    static void due(String what, long got, long want) {
        compared++;
        if (got == want) return;
        wrong++;
        if (wrong <= 50) System.out.println(what + ": got " + got + ", due is " + want);
    }

    static boolean isKind(int kind) {
        for (int known : KINDS) {
            if (known == kind) return true;
        }
        return false;
    }

    static boolean isReference(int kind) {
        return kind > NOTHING && isKind(kind);
    }

    static boolean isRow(int kind) {
        return isKind(kind) && (kind >= ROW && kind < BASE || kind >= CLASS_ROW);
    }

    static long shape(int result, int... parameters) {
        long shape = result + 1;
        for (int i = 0; i < parameters.length; i++) shape |= parameters[i] + 1L << 8 * (i + 1);
        return shape;
    }

    /** All that may be asked of an object without changing it, as a text. */
    static String state(HandleMirror x) {
        StringBuilder text = new StringBuilder();
        for (int what = 0; what <= 20; what++) text.append(x.count(what)).append(' ');
        for (int what = 0; what <= 3; what++) text.append(x.last(what)).append(' ');
        for (int what = 0; what <= 2; what++) text.append(x.result(what)).append(' ');
        int things = x.count(0);
        for (int thing = -1; thing < things; thing++) {
            for (int what = 0; what <= 1; what++) text.append(x.told(thing, what, 0)).append(' ');
            for (int i = 0; i < 8; i++) text.append(x.told(thing, 2, i)).append(' ');
            for (int i = 0; i < 24; i++) text.append(x.told(thing, 3, i)).append(' ');
        }
        int handles = x.count(2);
        for (int h = 0; h < handles; h++) text.append(x.shape(h)).append(' ');
        return text.toString();
    }

    static void end(String name) {
        System.out.println(name + ": " + compared + " answers compared, " + wrong + " wrong");
        if (wrong != 0) System.exit(1);
    }
}
