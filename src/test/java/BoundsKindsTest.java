/** Boundary cases of the terms, part 1: kinds, values, widening, shapes, things and args. */
public final class BoundsKindsTest extends Bounds {
    private static final int[] ROWS = {20, 21, 22, 23, 24, 25, 26, 27, 40, 41, 42, 43, 44};
    private static final int[] VALUES = {10, 11, 12, 13, 14, 15, 16, 17, 20, 21, 22, 23, 24, 25, 26, 27,
        30, 31, 32, 33, 34, 40, 41, 42, 43, 44};

    public static void main(String[] args) {
        plainKinds();
        nothingIsOfResultsAlone();
        noOtherKinds();
        noOtherKindsOfRows();
        noOtherKindsOfRuns();
        kindsThatAreOthers();
        valuesOfReferences();
        tagsAreInts();
        firstTag();
        rowsOf0To8();
        floatsAreToldByBits();
        noNumberCannotBeTold();
        wideningPairs();
        wideningEdges();
        shapesResult();
        shapesParameters();
        shapesOf0To6Parameters();
        otherBytesAre0();
        outsideWhereverAShapeIsTold();
        thingsAreNumbered();
        mostThings();
        argsOf0To6();
        Check.end("BoundsKindsTest");
    }

    /** Numbers around all kinds, and some that become kinds when they are cut to a byte. */
    private static int[] numbers() {
        int[] far = {LOWEST, LOWEST + 4, HIGHEST, -256 + 4, 256 + 4, 256 + 24, 256 + 30, 512 + 9, 65536 + 4, 1 << 30};
        int[] numbers = new int[far.length + 62];
        System.arraycopy(far, 0, numbers, 0, far.length);
        for (int i = far.length; i < numbers.length; i++) numbers[i] = i - far.length - 4;
        return numbers;
    }

    private static void plainKinds() {
        sentence("Terms", "PLAIN ones: 0 TRUTH, 1 BYTE, 2 SHORT, 3 CHAR, 4 INT, 5 LONG, 6 FLOAT, 7 DOUBLE.");
        for (int kind : numbers()) {
            boolean plain = kind >= 0 && kind <= 7 || kind >= 10 && kind <= 17;
            bounded("arg of " + kind, plain, 1, OUTSIDE, x -> x.arg(kind, 1));
        }
    }

    private static void nothingIsOfResultsAlone() {
        sentence("Terms", "8 NOTHING (of results alone).");
        given(() -> {
            HandleMirror x = new HandleMirror();
            summing(x, shape(INT, ROW + INT));
            return x;
        });
        answers("result of a method", 1, x -> x.method(0, 9, 0, 0, shape(NOTHING)));
        answers("result of a handle", 1, x -> x.as(0, shape(NOTHING, ROW + INT)));
        answers("result of a run", NULL, x -> {
            x.give(ROW + INT, NONE);
            return x.run(0, false, NOTHING);
        });
        refused("parameter of a method", OUTSIDE, x -> x.method(0, 9, 0, 0, shape(INT, NOTHING)));
        refused("parameter of a maker", OUTSIDE, x -> x.maker(0, 0, shape(NOTHING, NOTHING)));
        refused("parameter of what is found", OUTSIDE, x -> x.find(1, 0, 0, shape(INT, NOTHING), 0));
        refused("parameter of as()", OUTSIDE, x -> x.as(0, shape(INT, NOTHING)));
        refused("parameter of permute()", OUTSIDE, x -> x.permute(0, 0, shape(INT, ROW + INT, NOTHING)));
        refused("an arg", OUTSIDE, x -> x.arg(NOTHING, 0));
        refused("a thing given", OUTSIDE, x -> x.give(NOTHING, NONE));
        refused("a row", OUTSIDE, x -> x.row(NOTHING, 0));
        refused("a field", OUTSIDE, x -> x.field(0, 0, 0, NOTHING));
        refused("what is dropped", OUTSIDE, x -> x.drop(0, 0, NOTHING));
        refused("what is spread", OUTSIDE, x -> x.spread(0, NOTHING, 1));
        refused("what is collected", OUTSIDE, x -> x.collect(0, NOTHING, 1));
        refused("elements", OUTSIDE, x -> x.element(0, NOTHING));
        refused("the same", OUTSIDE, x -> x.same(NOTHING));
    }

    private static void noOtherKinds() {
        sentence("Terms", "REFERENCES: 9 THING; 10 + k the BOX of PLAIN k; 18 NUMBER; 20 + k a ROW of PLAIN k; "
            + "30 + c CLASS c: 0 BASE, 1 LEFT, 2 RIGHT, 3 LAST, 4 FAR; 40 + c a ROW of CLASS c. No others.");
        given(() -> {
            HandleMirror x = new HandleMirror();
            x.same(INT);
            return x;
        });
        for (int kind : numbers()) {
            boolean held = isKind(kind) && kind != NOTHING;
            bounded("same of " + kind, held, 1, OUTSIDE, x -> x.same(kind));
            bounded("field of " + kind, held, 0, OUTSIDE, x -> x.field(0, 0, 0, kind));
            bounded("drop of " + kind, held, 1, OUTSIDE, x -> x.drop(0, 0, kind));
            bounded("give as " + kind, isReference(kind), 1, OUTSIDE, x -> x.give(kind, NONE));
        }
    }

    private static void noOtherKindsOfRows() {
        sentence("Terms", "20 + k a ROW of PLAIN k; 30 + c CLASS c: 0 BASE, 1 LEFT, 2 RIGHT, 3 LAST, 4 FAR; 40 + c a ROW of CLASS c. No others.");
        given(() -> {
            HandleMirror x = new HandleMirror();
            x.same(THING);
            return x;
        });
        for (int kind : numbers()) {
            bounded("row of " + kind, isRow(kind), 0, OUTSIDE, x -> x.row(kind, 1));
            bounded("element of " + kind, isRow(kind), 1, OUTSIDE, x -> x.element(0, kind));
            bounded("spread of " + kind, isRow(kind), 1, OUTSIDE, x -> x.spread(0, kind, 0));
            bounded("collect of " + kind, isRow(kind), 1, OUTSIDE, x -> x.collect(0, kind, 0));
        }
    }

    private static void noOtherKindsOfRuns() {
        sentence("Terms", "40 + c a ROW of CLASS c. No others.");
        given(() -> {
            HandleMirror x = new HandleMirror();
            summing(x, shape(NOTHING));
            return x;
        });
        for (int kind : numbers()) {
            bounded("run for " + kind, isKind(kind), 1, OUTSIDE, x -> x.run(0, false, kind));
            bounded("direct for " + kind, isKind(kind), 1, OUTSIDE, x -> x.direct(0, kind));
        }
        for (int kind : numbers()) {
            boolean exactly = kind == NOTHING;
            bounded("run exactly for " + kind, exactly, 1, isKind(kind) ? WRONG_TYPE : OUTSIDE, x -> x.run(0, true, kind));
        }
    }

    /** An object with a thing of a kind, which has the number 0. */
    private static HandleMirror thingOf(int kind) {
        HandleMirror x = new HandleMirror();
        if (isRow(kind)) {
            x.row(kind, 1);
        } else if (kind >= BASE) {
            x.object(kind - BASE, 1);
        } else {
            x.arg(kind, 1);
            x.constant();
            x.run(0, true, kind);
            x.keep();
        }
        return x;
    }

    private static boolean isOneOf(int kind, int... kinds) {
        for (int other : kinds) {
            if (other == kind) return true;
        }
        return false;
    }

    private static boolean is(int kind, int other) {
        if (kind == other || other == THING) return true;
        switch (other) {
            case NUMBER: return isOneOf(kind, 11, 12, 14, 15, 16, 17);
            case BASE: return isOneOf(kind, LEFT, RIGHT, LAST, FAR);
            case LEFT: return kind == LAST;
            case RIGHT: return kind == FAR;
            case CLASS_ROW: return isOneOf(kind, 41, 42, 43, 44);
            case CLASS_ROW + 1: return kind == 43;
            case CLASS_ROW + 2: return kind == 44;
            default: return false;
        }
    }

    private static void kindsThatAreOthers() {
        sentence("Terms", "A KIND IS another one: itself; REFERENCES are THING; BOXES of BYTE, SHORT, INT, LONG, FLOAT, DOUBLE are NUMBER; "
            + "LEFT, RIGHT are BASE, LAST is LEFT (so BASE), FAR is RIGHT (so BASE); a ROW of a CLASS is a ROW of all that the CLASS is.");
        for (int kind : VALUES) {
            given(() -> thingOf(kind));
            for (int other : KINDS) {
                if (!isReference(other)) continue;
                bounded(kind + " given as " + other, is(kind, other), 1, CAST, x -> x.give(other, 0));
            }
        }
    }

    private static void valuesOfReferences() {
        sentence("Terms", "VALUES of REFERENCES: NONE, or THINGS of KINDS 10 to 17, 20 to 27, 30 to 34, 40 to 44.");
        for (int kind : KINDS) {
            HandleMirror x = new HandleMirror();
            if (!isReference(kind)) continue;
            due("none as " + kind, x.give(kind, NONE), 1);
            x.constant();
            brings("none of " + kind, x, x.run(0, true, kind), NONE, 0);
            summing(x, shape(kind));
            due("one made of " + kind, x.direct(0, kind), 1);
            due("its kind", isOneOf((int) x.result(1), VALUES) ? 1 : 0, 1);
        }
        for (int kind : VALUES) due("a thing of " + kind, thingOf(kind).told(0, 0, 0), kind);
    }

    private static void tagsAreInts() {
        sentence("Terms", "OBJECTS (of CLASSES) have a TAG (an int)");
        int[] tags = {LOWEST, -1, 0, 1, HIGHEST};
        for (int tag : tags) {
            HandleMirror x = new HandleMirror();
            x.object(4, tag);
            due("tag", x.told(0, 1, 0), tag);
        }
    }

    private static void firstTag() {
        sentence("Terms", "a first TAG (as it was made)");
        HandleMirror x = new HandleMirror();
        x.object(0, HIGHEST);
        x.field(0, 0, FINAL, INT);
        x.method(0, 0, 0, 6, shape(INT, INT));
        x.give(BASE, 0);
        ints(x, LOWEST);
        brings("another tag", x, x.direct(1, INT), INT, HIGHEST);
        due("the tag", x.told(0, 1, 0), LOWEST);
        due("the first tag", x.told(0, 3, 0), HIGHEST);
    }

    private static void rowsOf0To8() {
        sentence("Terms", "ROWS have 0 to 8 ELEMENTS: at first 0 (false), NONE.");
        for (int kind : ROWS) {
            refused("-1 of " + kind, SIZE, x -> x.row(kind, -1));
            refused("9 of " + kind, OUTSIDE, x -> x.row(kind, 9));
            HandleMirror x = new HandleMirror();
            for (int n = 0; n <= 8; n++) {
                due("row of " + n, x.row(kind, n), n);
                due("its length", x.told(n, 1, 0), n);
                for (int i = 0; i < n; i++) due("element at first", x.told(n, 2, i), kind >= CLASS_ROW ? NONE : 0);
                due("no element ahead", x.told(n, 2, -1), 0);
                due("no element behind", x.told(n, 2, n), 0);
            }
        }
    }

    private static void told(int kind, long bits, long want) {
        for (int k = kind; k <= kind + 10; k += 10) {
            HandleMirror x = new HandleMirror();
            due("arg " + Long.toHexString(bits), x.arg(k, bits), 1);
            x.constant();
            brings("bits " + Long.toHexString(bits), x, x.run(0, true, k), k, want);
        }
    }

    private static void floatsAreToldByBits() {
        sentence("Terms", "A FLOAT or DOUBLE is told by its bits (FLOAT: the lowest 32, told as an int)");
        told(FLOAT, 0x3f800000L, 0x3f800000);
        told(FLOAT, -1L << 32 | 0x3f800000L, 0x3f800000);
        told(FLOAT, 0x80000000L, LOWEST);
        told(FLOAT, 0xbf800000L, 0xbf800000);
        told(FLOAT, 1, 1);
        told(DOUBLE, 0, 0);
        told(DOUBLE, Long.MIN_VALUE, Long.MIN_VALUE);
        told(DOUBLE, 1, 1);
        told(DOUBLE, 0xbff0000000000001L, 0xbff0000000000001L);
    }

    private static void noNumberCannotBeTold() {
        sentence("Terms", "what is no number cannot be told.");
        long[] floats = {0x7f800000L, 0xff800000L, 0x7f7fffffL, 0xff7fffffL, 0x17f800000L, 0x7fc000007f800000L};
        for (long bits : floats) told(FLOAT, bits, (int) bits);
        long[] noFloats = {0x7f800001L, 0x7fffffffL, 0xff800001L, 0xffffffffL, 0x7fc00000L, 0x17f800001L, -1L};
        long[] doubles = {0x7ff0000000000000L, 0xfff0000000000000L, 0x7fefffffffffffffL, 0x7fc00000L, 0xffffffffL};
        for (long bits : doubles) told(DOUBLE, bits, bits);
        long[] noDoubles = {0x7ff0000000000001L, 0x7fffffffffffffffL, 0xfff0000000000001L, -1L, 0x7ff8000000000000L};
        for (int box = 0; box <= 10; box += 10) {
            int f = FLOAT + box;
            int d = DOUBLE + box;
            for (long bits : noFloats) refused("no float " + Long.toHexString(bits), OUTSIDE, x -> x.arg(f, bits));
            for (long bits : noDoubles) refused("no double " + Long.toHexString(bits), OUTSIDE, x -> x.arg(d, bits));
        }
    }

    private static boolean widens(int from, int to) {
        int[][] all = {{}, {2, 4, 5, 6, 7}, {4, 5, 6, 7}, {4, 5, 6, 7}, {5, 6, 7}, {6, 7}, {7}, {}};
        return isOneOf(to, all[from]);
    }

    private static void wideningPairs() {
        sentence("Terms", "WIDENING is from BYTE to SHORT, INT, LONG, FLOAT, DOUBLE; SHORT, CHAR to INT, LONG, FLOAT, DOUBLE; "
            + "INT to LONG, FLOAT, DOUBLE; LONG to FLOAT, DOUBLE; FLOAT to DOUBLE");
        for (int from = 0; from < 8; from++) {
            for (int to = 0; to < 8; to++) {
                int f = from;
                int t = to;
                given(() -> {
                    HandleMirror x = new HandleMirror();
                    x.same(t);
                    return x;
                });
                bounded(f + " to " + t, f == t || widens(f, t), f == t ? 0 : 1, WRONG_TYPE, x -> x.as(0, shape(t, f)));
                bounded(f + " given for " + t, f == t || widens(f, t), 1, WRONG_TYPE, x -> {
                    x.arg(f, 1);
                    int answer = x.run(0, false, t);
                    if (answer != 1) x.forget();
                    return answer;
                });
            }
        }
    }

    /** What Java makes of a plain value that is cast to another plain kind, as bits. */
    private static long inJava(int from, int to, long bits) {
        float f = Float.intBitsToFloat((int) bits);
        switch (to) {
            case FLOAT: return Float.floatToRawIntBits(from == FLOAT ? f : (float) bits);
            case DOUBLE: return Double.doubleToRawLongBits(from == FLOAT ? (double) f : from == DOUBLE ? Double.longBitsToDouble(bits) : (double) bits);
            default: return bits;
        }
    }

    private static void wideningEdges() {
        sentence("Terms", "(as this language does it)");
        long[][] edges = {{0, 1}, {-128, -1, 0, 127}, {-32768, 32767}, {0, 65535}, {LOWEST, HIGHEST, 16777217, -16777219},
            {Long.MIN_VALUE, Long.MAX_VALUE, (1L << 53) + 1, -(1L << 53) - 3, (1L << 62) + (1L << 38) + 1},
            {0, LOWEST, 1, 0x7f7fffff, 0x7f800000, 0xff800000, 0x00800000, 0x807fffff}, {0, Long.MIN_VALUE, 1}};
        for (int from = 0; from < 8; from++) {
            for (int to = 0; to < 8; to++) {
                if (from != to && !widens(from, to)) continue;
                for (long bits : edges[from]) {
                    HandleMirror x = new HandleMirror();
                    x.same(to);
                    x.arg(from, bits);
                    brings(from + " " + bits + " to " + to, x, x.run(0, false, to), to, inJava(from, to, bits));
                }
            }
        }
    }

    /** A handle without parameters that brings INT, and one that brings NOTHING. */
    private static HandleMirror bare() {
        HandleMirror x = new HandleMirror();
        summing(x, shape(INT));
        summing(x, shape(NOTHING));
        return x;
    }

    private static void shapesResult() {
        sentence("Terms", "A SHAPE is a long: its lowest byte is a result's KIND and 1");
        given(BoundsKindsTest::bare);
        for (int b = 0; b < 256; b++) {
            long shape = b;
            bounded("result " + b, isKind(b - 1), b - 1 == NOTHING ? 1 : 2, OUTSIDE, x -> x.as(1, shape));
        }
    }

    private static void shapesParameters() {
        sentence("Terms", "the next ones the KINDS of 0 to 6 PARAMETERS and 1 each");
        given(BoundsKindsTest::bare);
        for (int place = 1; place <= 6; place++) {
            long ahead = INT + 1;
            for (int i = 1; i < place; i++) ahead |= (LONG + 1L) << 8 * i;
            for (int b = 0; b < 256; b++) {
                long shape = ahead | (long) b << 8 * place;
                boolean inside = b == 0 || isKind(b - 1) && b - 1 != NOTHING;
                bounded("parameter " + place + " of " + b, inside, 2, OUTSIDE, x -> x.permute(0, 0, shape));
            }
        }
    }

    private static void shapesOf0To6Parameters() {
        sentence("Terms", "KINDS of 0 to 6 PARAMETERS");
        given(BoundsKindsTest::bare);
        long shape = INT + 1;
        for (int size = 0; size <= 7; size++) {
            long now = shape;
            bounded(size + " parameters", size <= 6, 2, OUTSIDE, x -> x.permute(0, 0, now));
            shape |= (long) (BASE + 1) << 8 * (size + 1);
        }
    }

    private static void otherBytesAre0() {
        sentence("Terms", "the others 0.");
        given(BoundsKindsTest::bare);
        for (int place = 1; place <= 7; place++) {
            for (int empty = 1; empty < place; empty++) {
                long shape = INT + 1;
                for (int i = 1; i <= place; i++) shape |= i == empty ? 0 : (INT + 1L) << 8 * i;
                long gap = shape;
                refused("byte " + empty + " of " + place + " is 0", OUTSIDE, x -> x.permute(0, 0, gap));
            }
        }
        for (int b = 1; b < 256; b++) {
            long few = shape(INT) | (long) b << 56;
            long many = shape(INT, 4, 4, 4, 4, 4, 4) | (long) b << 56;
            refused("highest byte of few " + b, OUTSIDE, x -> x.permute(0, 0, few));
            refused("highest byte of many " + b, OUTSIDE, x -> x.permute(0, 0, many));
        }
    }

    private static void outsideWhereverAShapeIsTold() {
        sentence("Terms", "(Anything else is OUTSIDE, wherever a SHAPE is told.)");
        given(BoundsKindsTest::bare);
        long[] others = {0, -1, Long.MIN_VALUE, Long.MAX_VALUE, 20, 29, 36, 46, 255, 256, shape(INT, NOTHING), shape(NOTHING, 19),
            shape(NOTHING, 28), shape(NOTHING, 45), shape(NOTHING, 254), shape(NOTHING) | 5L << 16, shape(INT) | 5L << 16,
            shape(NOTHING, 4, 4, 4, 4, 4, 4) | 5L << 56, shape(NOTHING) | 1L << 56, shape(INT) | Long.MIN_VALUE};
        for (long shape : others) {
            String what = " of shape " + Long.toHexString(shape);
            refused("method" + what, OUTSIDE, x -> x.method(0, 9, 0, 0, shape));
            refused("maker" + what, OUTSIDE, x -> x.maker(0, 0, shape));
            for (int how = 0; how <= 5; how++) {
                int h = how;
                refused("find " + how + what, OUTSIDE, x -> x.find(h, 0, 0, shape, 0));
            }
            refused("as" + what, OUTSIDE, x -> x.as(0, shape));
            refused("permute" + what, OUTSIDE, x -> x.permute(0, 0, shape));
        }
    }

    /** What is brought has no number yet: a box. */
    private static HandleMirror boxBrought(HandleMirror x) {
        x.same(THING);
        x.arg(BOX + INT, 7);
        x.run(x.count(2) - 1, false, THING);
        return x;
    }

    private static void thingsAreNumbered() {
        sentence("Terms", "THINGS are numbered from 0 on as object(), row(), keep() name them");
        HandleMirror x = boxBrought(new HandleMirror());
        due("no thing yet", x.count(0), 0);
        due("object", x.object(0, 0), 0);
        due("row", x.row(24, 1), 1);
        due("keep", x.keep(), 2);
        due("keep again", x.keep(), 2);
        due("a refused row", x.row(24, -1), SIZE);
        due("object", x.object(0, 0), 3);
        due("things", x.count(0), 4);
    }

    private static void mostThings() {
        sentence("Terms", "name them (60 at most)");
        given(() -> boxBrought(things(59)));
        answers("object as the 60th", 59, x -> x.object(1, 1));
        answers("row as the 60th", 59, x -> x.row(24, 0));
        answers("keep as the 60th", 59, HandleMirror::keep);
        given(() -> boxBrought(things(60)));
        refused("object as the 61st", FULL, x -> x.object(1, 1));
        refused("row as the 61st", FULL, x -> x.row(24, 0));
        refused("keep as the 61st", FULL, HandleMirror::keep);
        answers("things", 60, x -> x.count(0));
    }

    private static void argsOf0To6() {
        sentence("Terms", "ARGS are 0 to 6 VALUES, each with a KIND.");
        for (int n = 0; n <= 6; n++) {
            int now = n;
            given(() -> withArgs(new HandleMirror(), now));
            answers("args", n, x -> x.count(3));
            bounded("arg behind " + n, n < 6, n + 1, FULL, x -> x.arg(LONG, 1));
            bounded("box behind " + n, n < 6, n + 1, FULL, x -> x.arg(BOX + LONG, 1));
            bounded("none behind " + n, n < 6, n + 1, FULL, x -> x.give(THING, NONE));
            answers("a run with " + n, 1, x -> {
                int[] parameters = new int[now];
                for (int i = 0; i < now; i++) parameters[i] = INT;
                return x.run(x.permute(summing(x, shape(INT)), 0, shape(INT, parameters)), true, INT);
            });
        }
    }
}
