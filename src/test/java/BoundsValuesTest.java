/** Boundary cases of the terms, part 2: members, numbers of values, what is made of a long, fields, acts. */
public final class BoundsValuesTest extends Bounds {
    private static final long BIG = 1L << 32;

    public static void main(String[] args) {
        mostMembers();
        methodsNames();
        methodsParameters();
        methodsMarks();
        fieldsMarks();
        fieldsKind();
        makersMarks();
        makersResult();
        nests();
        numbersOfPlainOnes();
        numbersOfFloats();
        numbersOfBoxes();
        numbersOfObjectsAndRows();
        numberOfNone();
        madePlain();
        madeBoxes();
        madeRows();
        madeObjects();
        madeOfNothing();
        fieldsAtFirst();
        finalFields();
        staticFields();
        receiverIsNone();
        whatComesIsMade();
        sumsRunOver();
        sumsAskInOrder();
        quotients();
        elementsTaken();
        elementsPut();
        elementsPutThemselves();
        elementsPutCast();
        elementsPutInOrder();
        raised();
        passedItself();
        retagged();
        weights();
        fewerParameters();
        firstIsNoRow();
        noReference();
        actsWithStatic();
        variedWithoutARow();
        makersTag();
        Check.end("BoundsValuesTest");
    }

    private static void mostMembers() {
        sentence("Terms", "MEMBERS (24 at most, numbered as they come) are of a CLASS");
        HandleMirror numbered = new HandleMirror();
        for (int i = 0; i < 24; i += 3) {
            due("method", numbered.method(0, i / 3, 0, 0, shape(INT)), i);
            due("field", numbered.field(1, i / 3, 0, INT), i + 1);
            due("maker", numbered.maker(i / 12, 0, shape(NOTHING, BASE + i / 3 % 4)), i + 2);
        }
        due("24 members", numbered.count(1), 24);
        given(() -> members(new HandleMirror(), 23));
        answers("method as the 24th", 23, x -> x.method(0, 0, 0, 0, shape(INT)));
        answers("field as the 24th", 23, x -> x.field(0, 0, 0, INT));
        answers("maker as the 24th", 23, x -> x.maker(0, 0, shape(NOTHING)));
        given(() -> members(new HandleMirror(), 24));
        answers("members", 24, x -> x.count(1));
        refused("method as the 25th", FULL, x -> x.method(0, 0, 0, 0, shape(INT)));
        refused("field as the 25th", FULL, x -> x.field(0, 0, 0, INT));
        refused("maker as the 25th", FULL, x -> x.maker(0, 0, shape(NOTHING)));
    }

    private static void methodsNames() {
        sentence("Terms", "METHODS have a NAME (0 to 15)");
        int[] names = {LOWEST, -1, 0, 1, 14, 15, 16, 255, HIGHEST};
        for (int name : names) {
            boolean inside = name >= 0 && name <= 15;
            bounded("method " + name, inside, 0, OUTSIDE, x -> x.method(0, name, 0, 0, shape(INT)));
            bounded("field " + name, inside, 0, OUTSIDE, x -> x.field(0, name, 0, INT));
        }
    }

    private static void methodsParameters() {
        sentence("Terms", "a SHAPE of 4 PARAMETERS at most");
        long shape = shape(INT);
        long nothing = shape(NOTHING);
        for (int size = 0; size <= 6; size++) {
            long now = shape;
            long makers = nothing;
            bounded("method of " + size, size <= 4, 0, OUTSIDE, x -> x.method(0, 0, 0, 0, now));
            bounded("static method of " + size, size <= 4, 0, OUTSIDE, x -> x.method(0, 0, STATIC, 0, now));
            bounded("maker of " + size, size <= 4, 0, OUTSIDE, x -> x.maker(0, 0, makers));
            shape |= (INT + 1L) << 8 * (size + 1);
            nothing |= (INT + 1L) << 8 * (size + 1);
        }
        HandleMirror x = new HandleMirror();
        long four = shape(INT, INT, INT, INT, INT);
        x.method(0, 0, 0, 0, four);
        due("with a receiver", x.shape(x.find(0, 0, 0, four, 0)), shape(INT, BASE, INT, INT, INT, INT));
        x.object(0, 1);
        x.give(BASE, 0);
        ints(x, 2, 3, 4, 5);
        brings("four and a receiver", x, x.run(0, true, INT), INT, 15);
    }

    private static void methodsMarks() {
        sentence("Terms", "MARKS: 1 STATIC, 2 PRIVATE, 4 VARIED, together.");
        int[] more = {LOWEST, -8, -1, 16, 32, 256, 1 << 30, HIGHEST};
        for (int marks = 0; marks <= 9; marks++) {
            int now = marks;
            bounded("marks " + marks, marks <= 7, 0, OUTSIDE, x -> x.method(0, 0, now, 0, shape(INT, ROW + INT)));
        }
        for (int marks : more) refused("marks " + marks, OUTSIDE, x -> x.method(0, 0, marks, 0, shape(INT, ROW + INT)));
    }

    private static void fieldsMarks() {
        sentence("Terms", "FIELDS have a NAME, a KIND (not NOTHING), MARKS 1 STATIC, 2 PRIVATE, 8 FINAL.");
        int[] more = {LOWEST, -8, -1, 16, 24, 256, HIGHEST};
        for (int marks = 0; marks <= 16; marks++) {
            int now = marks;
            boolean inside = marks <= 3 || marks >= 8 && marks <= 11;
            bounded("marks " + marks, inside, 0, OUTSIDE, x -> x.field(0, 0, now, INT));
        }
        for (int marks : more) refused("marks " + marks, OUTSIDE, x -> x.field(0, 0, marks, INT));
    }

    private static void fieldsKind() {
        sentence("Terms", "a KIND (not NOTHING)");
        for (int kind = -1; kind <= 45; kind++) {
            int now = kind;
            bounded("field of " + kind, isKind(kind) && kind != NOTHING, 0, OUTSIDE, x -> x.field(4, 15, 11, now));
        }
    }

    private static void makersMarks() {
        sentence("Terms", "MAKERS have PARAMETERS (a SHAPE with the result NOTHING), MARKS 2 PRIVATE, 4 VARIED.");
        int[] more = {LOWEST, -2, -1, 10, 12, 14, 256, HIGHEST};
        for (int marks = 0; marks <= 8; marks++) {
            int now = marks;
            bounded("marks " + marks, marks <= 6 && marks % 2 == 0, 0, OUTSIDE, x -> x.maker(0, now, shape(NOTHING, ROW + INT)));
        }
        for (int marks : more) refused("marks " + marks, OUTSIDE, x -> x.maker(0, marks, shape(NOTHING, ROW + INT)));
    }

    private static void makersResult() {
        sentence("Terms", "(a SHAPE with the result NOTHING)");
        for (int kind : KINDS) bounded("result " + kind, kind == NOTHING, 0, OUTSIDE, x -> x.maker(0, 0, shape(kind, INT)));
    }

    private static void nests() {
        sentence("Terms", "Each CLASS has a NEST, a number (0 to 4; its own number at first).");
        int[] numbers = {LOWEST, -1, 0, 1, 2, 3, 4, 5, HIGHEST};
        for (int c = 0; c < 5; c++) {
            for (int n : numbers) {
                int now = c;
                bounded("nest " + n + " of " + c, n >= 0 && n <= 4, c, OUTSIDE, x -> x.nest(now, n));
            }
        }
    }

    /** The number of a value: what a static method, the member 0, sums up of it alone. */
    private static void number(int kind, long bits, long want) {
        HandleMirror x = new HandleMirror();
        x.method(0, 0, STATIC, 0, shape(LONG, kind));
        x.arg(kind, bits);
        brings("number of " + bits + " of kind " + kind, x, x.direct(0, LONG), LONG, want);
    }

    private static void numbersOfPlainOnes() {
        sentence("Terms", "THE NUMBER of a VALUE is a long: of TRUTH 1, 0; of other PLAIN ones their value");
        number(TRUTH, 0, 0);
        number(TRUTH, 1, 1);
        number(BYTE, -128, -128);
        number(BYTE, 127, 127);
        number(SHORT, -32768, -32768);
        number(SHORT, 32767, 32767);
        number(CHAR, 0, 0);
        number(CHAR, 65535, 65535);
        number(INT, LOWEST, LOWEST);
        number(INT, HIGHEST, HIGHEST);
        number(LONG, Long.MIN_VALUE, Long.MIN_VALUE);
        number(LONG, Long.MAX_VALUE, Long.MAX_VALUE);
    }

    private static void numbersOfFloats() {
        sentence("Terms", "(FLOAT, DOUBLE: cast)");
        float[] floats = {0f, -0f, 0.99f, -0.99f, 1f, -1.5f, Float.MIN_VALUE, 8388607.5f, 16777215f, 16777216f, 9.223371e18f, 9.223372e18f,
            -9.223372e18f, -9.223373e18f, Float.MAX_VALUE, -Float.MAX_VALUE, Float.POSITIVE_INFINITY, Float.NEGATIVE_INFINITY};
        for (float f : floats) number(FLOAT, Float.floatToRawIntBits(f), (long) f);
        double[] doubles = {0, -0.0, 0.9999, -0.9999, 1, -1.5, Double.MIN_VALUE, 4503599627370495.5, 9007199254740991.0, 9007199254740993.0, 9.223372036854774e18,
            9.223372036854775807e18, -9.223372036854775808e18, -9.3e18, 1e19, Double.MAX_VALUE, -Double.MAX_VALUE,
            Double.POSITIVE_INFINITY, Double.NEGATIVE_INFINITY};
        for (double d : doubles) number(DOUBLE, Double.doubleToRawLongBits(d), (long) d);
    }

    private static void numbersOfBoxes() {
        sentence("Terms", "of a BOX that of what it holds");
        number(BOX + TRUTH, 3, 1);
        number(BOX + BYTE, 128, -128);
        number(BOX + SHORT, 32768, -32768);
        number(BOX + CHAR, -1, 65535);
        number(BOX + INT, HIGHEST, HIGHEST);
        number(BOX + LONG, Long.MIN_VALUE, Long.MIN_VALUE);
        number(BOX + FLOAT, Float.floatToRawIntBits(-2.5f), -2);
        number(BOX + DOUBLE, Double.doubleToRawLongBits(1e300), Long.MAX_VALUE);
    }

    private static void numbersOfObjectsAndRows() {
        sentence("Terms", "of an OBJECT its TAG; of a ROW its length");
        HandleMirror x = new HandleMirror();
        x.method(0, 0, STATIC, 0, shape(LONG, THING));
        x.object(3, LOWEST);
        x.object(0, HIGHEST);
        x.row(24, 0);
        x.row(44, 8);
        long[] numbers = {LOWEST, HIGHEST, 0, 8};
        for (int thing = 0; thing < 4; thing++) {
            x.give(THING, thing);
            brings("number of thing " + thing, x, x.direct(0, LONG), LONG, numbers[thing]);
        }
    }

    private static void numberOfNone() {
        sentence("Terms", "of NONE: FAILURE NULL.");
        for (int kind : KINDS) {
            if (!isReference(kind)) continue;
            HandleMirror x = new HandleMirror();
            x.method(0, 0, STATIC, 0, shape(LONG, kind));
            x.give(kind, NONE);
            due("none of " + kind, x.direct(0, LONG), NULL);
            takes("none of " + kind, x, 1, 1, 0, 1);
            due("counted", x.count(11), 1);
        }
    }

    /** What a static method, the member 0, makes of a long. */
    private static HandleMirror making(int kind, long n) {
        HandleMirror x = new HandleMirror();
        x.method(0, 0, STATIC, 0, shape(kind, LONG));
        x.arg(LONG, n);
        return x;
    }

    private static void makes(int kind, long n, int want, long bits) {
        HandleMirror x = making(kind, n);
        brings(n + " made " + kind, x, x.direct(0, kind), want, bits);
        due("made", x.count(4), kind > NOTHING ? 1 : 0);
    }

    private static void madePlain() {
        sentence("Terms", "A VALUE is MADE of a long n, of a KIND: PLAIN: n cast to it (TRUTH: n is odd)");
        plainOnes(0);
    }

    private static void madeBoxes() {
        sentence("Terms", "a BOX likewise; THING, NUMBER: the BOX of LONG n");
        plainOnes(BOX);
        long[] longs = {Long.MIN_VALUE, -1, 0, 1, Long.MAX_VALUE};
        for (long n : longs) {
            makes(THING, n, BOX + LONG, n);
            makes(NUMBER, n, BOX + LONG, n);
        }
    }

    private static void plainOnes(int more) {
        long[] longs = {Long.MIN_VALUE, Long.MIN_VALUE + 1, -BIG - 1, -BIG, LOWEST - 1L, LOWEST, -65537, -65536, -32769, -32768, -257, -129, -128,
            -3, -2, -1, 0, 1, 2, 3, 127, 128, 255, 256, 32767, 32768, 65535, 65536, 16777216, 16777217, 16777219, 33554437, HIGHEST, HIGHEST + 1L,
            BIG - 1, BIG, BIG + 1, (1L << 53) + 1, (1L << 53) + 3, (1L << 54) - 1, (1L << 54) + 5, Long.MAX_VALUE - 1, Long.MAX_VALUE};
        for (long n : longs) {
            makes(more + TRUTH, n, more + TRUTH, n % 2 == 0 ? 0 : 1);
            makes(more + BYTE, n, more + BYTE, (byte) n);
            makes(more + SHORT, n, more + SHORT, (short) n);
            makes(more + CHAR, n, more + CHAR, (char) n);
            makes(more + INT, n, more + INT, (int) n);
            makes(more + LONG, n, more + LONG, n);
            makes(more + FLOAT, n, more + FLOAT, Float.floatToRawIntBits((float) n));
            makes(more + DOUBLE, n, more + DOUBLE, Double.doubleToRawLongBits((double) n));
        }
    }

    private static void madeRows() {
        sentence("Terms", "a ROW: n cast to int ELEMENTS (below 0: SIZE; above 8: 8)");
        for (int kind : KINDS) {
            if (!isRow(kind)) continue;
            for (int n = 0; n <= 8; n++) makes(kind, n, kind, n);
            makes(kind, 9, kind, 8);
            makes(kind, HIGHEST, kind, 8);
            makes(kind, BIG, kind, 0);
            makes(kind, BIG + 3, kind, 3);
            makes(kind, BIG + 9, kind, 8);
            makes(kind, Long.MIN_VALUE, kind, 0);
            makes(kind, -BIG + 8, kind, 8);
            long[] below = {-1, LOWEST, BIG - 1, 1L << 31, Long.MAX_VALUE};
            for (long n : below) {
                HandleMirror x = making(kind, n);
                due("row of " + n, x.direct(0, kind), SIZE);
                takes("row of " + n, x, 1, 1, 0, 5);
                due("nothing made", x.count(4), 0);
            }
        }
    }

    private static void madeObjects() {
        sentence("Terms", "a CLASS: an OBJECT, its TAG n cast to int");
        long[] longs = {Long.MIN_VALUE, LOWEST - 1L, LOWEST, -1, 0, 1, HIGHEST, HIGHEST + 1L, BIG - 1, BIG, BIG + 7, Long.MAX_VALUE};
        for (int kind = BASE; kind <= FAR; kind++) {
            for (long n : longs) makes(kind, n, kind, (int) n);
        }
    }

    private static void madeOfNothing() {
        sentence("Terms", "of NOTHING none.");
        makes(NOTHING, 1, NOTHING, 0);
        makes(NOTHING, -1, NOTHING, 0);
        HandleMirror x = making(NOTHING, 5);
        due("for a thing", x.direct(0, THING), 1);
        due("none", x.result(1), NONE);
    }

    private static void fieldsAtFirst() {
        sentence("Terms", "AN OBJECT's FIELDS that are not STATIC are 0 (false), NONE at first");
        for (int kind : KINDS) {
            if (kind == NOTHING) continue;
            HandleMirror x = new HandleMirror();
            x.object(0, HIGHEST);
            x.field(0, 0, 0, kind);
            x.object(0, -1);
            for (int thing = 0; thing < 2; thing++) {
                due("told of " + kind, x.told(thing, 3, 0), isReference(kind) ? NONE : 0);
                x.give(BASE, thing);
                brings("got of " + kind, x, x.direct(0, kind), isReference(kind) ? NONE : kind, 0);
            }
        }
    }

    private static void finalField(int kind, int tag, long want) {
        HandleMirror x = new HandleMirror();
        x.object(0, tag);
        x.field(0, 0, FINAL, kind);
        x.method(0, 0, 0, 6, shape(NOTHING, INT));
        x.give(BASE, 0);
        ints(x, tag + 1);
        x.direct(1, NOTHING);
        due("final " + kind + " of " + tag, x.told(0, 3, 0), want);
        x.give(BASE, 0);
        boolean none = isReference(kind);
        brings("final " + kind + " of " + tag, x, x.direct(0, kind), none ? NONE : kind, none ? 0 : want);
        due("cannot be set", x.find(5, 0, 0, shape(kind), 0), NO_ACCESS);
    }

    private static void finalFields() {
        sentence("Terms", "a FINAL one is always the VALUE MADE of the first TAG, if PLAIN, else NONE.");
        int[] tags = {LOWEST, -129, -2, -1, 0, 1, 2, 127, 128, 300, 32768, 65536, 16777217, HIGHEST};
        for (int tag : tags) {
            finalField(TRUTH, tag, tag & 1);
            finalField(BYTE, tag, (byte) tag);
            finalField(SHORT, tag, (short) tag);
            finalField(CHAR, tag, (char) tag);
            finalField(INT, tag, tag);
            finalField(LONG, tag, tag);
            finalField(FLOAT, tag, Float.floatToRawIntBits((float) tag));
            finalField(DOUBLE, tag, Double.doubleToRawLongBits(tag));
        }
        for (int kind : KINDS) {
            if (isReference(kind)) finalField(kind, 1, NONE);
        }
    }

    private static void staticFields() {
        sentence("Terms", "STATIC ones likewise; a FINAL one is that MADE of its number as a MEMBER, if PLAIN.");
        for (int kind : KINDS) {
            if (kind == NOTHING) continue;
            for (int number = 0; number < 24; number += number == 1 ? 22 : 1) {
                HandleMirror x = members(new HandleMirror(), number);
                due("field " + number, x.field(0, 0, STATIC | FINAL, kind), number);
                long want = kind == TRUTH ? number & 1 : kind == FLOAT ? Float.floatToRawIntBits(number)
                    : kind == DOUBLE ? Double.doubleToRawLongBits(number) : kind > NOTHING ? NONE : number;
                due("static final " + kind + " of " + number, x.told(NONE, 3, number), want);
            }
            HandleMirror x = members(new HandleMirror(), 1);
            x.field(0, 0, STATIC, kind);
            due("static of " + kind + " at first", x.told(NONE, 3, 1), isReference(kind) ? NONE : 0);
        }
    }

    /** A method of class 0 that is not static, and an object. */
    private static HandleMirror receiving(int act, long shape) {
        HandleMirror x = new HandleMirror();
        x.object(0, 5);
        x.method(0, 0, 0, act, shape);
        return x;
    }

    private static void receiverIsNone() {
        sentence("Terms", "A METHOD that is not STATIC has a RECEIVER (NONE: NULL, ahead of all).");
        HandleMirror x = receiving(1, shape(LONG, INT, INT));
        x.give(BASE, NONE);
        due("ahead of zero", ints(x, 1, 0).direct(0, LONG), NULL);
        x = receiving(2, shape(INT, ROW + INT, INT));
        x.row(24, 0);
        x.give(BASE, NONE);
        x.give(ROW + INT, 1);
        due("ahead of index", ints(x, 9).direct(0, INT), NULL);
        x = receiving(3, shape(INT, CLASS_ROW, INT, THING));
        x.row(40, 1);
        x.give(BASE, NONE);
        x.give(CLASS_ROW, 1);
        ints(x, 0).give(THING, 1);
        due("ahead of cast", x.direct(0, INT), NULL);
        x = receiving(4, shape(INT));
        x.give(BASE, NONE);
        due("ahead of raised", x.direct(0, INT), NULL);
        x = receiving(5, shape(LEFT, THING));
        x.give(BASE, NONE);
        x.give(THING, 0);
        due("ahead of what is not of the result", x.direct(0, LEFT), NULL);
        for (int act = 6; act <= 7; act++) {
            x = receiving(act, shape(INT));
            x.give(BASE, NONE);
            due("of act " + act, x.direct(0, INT), NULL);
        }
        x = receiving(0, shape(ROW + INT, INT));
        x.give(BASE, NONE);
        due("ahead of size", ints(x, -9).direct(0, ROW + INT), NULL);
    }

    /** A quotient by 1, an element taken, a length, a tag before, a weight: what an act brings of a long, of a kind. */
    private static HandleMirror acted(int act, int kind, int n) {
        HandleMirror x = new HandleMirror();
        long[] shapes = {shape(kind, INT), shape(kind, INT, INT), shape(kind, ROW + INT, INT), shape(kind, ROW + INT, INT, INT),
            0, 0, shape(kind, INT), shape(kind)};
        x.row(ROW + INT, act == 3 ? n : 1);
        x.object(0, n);
        x.element(1, ROW + INT);
        if (act == 2) {
            x.give(ROW + INT, 0);
            ints(x, 0, n).run(0, true, NOTHING);
        }
        x.method(0, 0, act >= 6 ? 0 : STATIC, act, shapes[act]);
        if (act >= 6) x.give(BASE, 1);
        if (act == 2 || act == 3) x.give(ROW + INT, 0);
        if (act <= 1) ints(x, n);
        if (act == 1) ints(x, 1);
        if (act == 2 || act == 3 || act == 6) ints(x, 0);
        if (act == 3) ints(x, 0);
        return x;
    }

    private static void whatComesIsMade() {
        sentence("Terms", "What comes is MADE of a long, of the result's KIND (but 4, 5)");
        int[] acts = {0, 1, 2, 3, 6, 7};
        for (int act : acts) {
            int[] numbers = act == 3 ? new int[] {1, 2, 7, 8} : new int[] {LOWEST, -129, -1, 0, 1, 8, 9, 128, 65536, HIGHEST};
            for (int n : numbers) {
                for (int kind : KINDS) {
                    HandleMirror x = acted(act, kind, n);
                    boolean size = isRow(kind) && n < 0;
                    due("act " + act + " of " + n + " for " + kind, x.direct(0, kind), size ? SIZE : 1);
                    due("made", x.count(4), kind > NOTHING && !size ? 1 : 0);
                    if (size) continue;
                    int plain = kind >= BOX && kind < NUMBER ? kind - BOX : kind;
                    due("its kind", x.result(1), kind == THING || kind == NUMBER ? BOX + LONG : kind);
                    due("its bits", x.result(2), kind == NOTHING ? 0 : isRow(kind) ? Math.min(n, 8) : castTo(plain, n));
                }
            }
        }
    }

    private static void sumsRunOver() {
        sentence("Terms", "0 SUM: 1000 times the METHOD's number and THE NUMBERS of all VALUES (the RECEIVER's, too)");
        HandleMirror none = members(new HandleMirror(), 23);
        none.method(0, 0, STATIC, 0, shape(LONG));
        brings("no values, member 23", none, none.direct(23, LONG), LONG, 23000);
        HandleMirror x = new HandleMirror();
        x.method(0, 0, STATIC, 0, shape(LONG, LONG, LONG, LONG, LONG));
        for (int i = 0; i < 4; i++) x.arg(LONG, Long.MAX_VALUE);
        brings("four at most", x, x.direct(0, LONG), LONG, -4);
        x.arg(LONG, Long.MAX_VALUE);
        x.arg(LONG, 1);
        x.arg(LONG, 0);
        x.arg(LONG, 0);
        brings("one over", x, x.direct(0, LONG), LONG, Long.MIN_VALUE);
        x = receiving(0, shape(LONG, LONG));
        x.give(BASE, 0);
        x.arg(LONG, Long.MIN_VALUE);
        brings("the receiver's tag too", x, x.direct(0, LONG), LONG, Long.MIN_VALUE + 5);
    }

    private static void sumsAskInOrder() {
        sentence("Terms", "asked for in order.");
        HandleMirror x = new HandleMirror();
        x.method(0, 0, STATIC, 0, shape(LONG, THING, THING, THING));
        for (int i = 0; i < 3; i++) x.give(THING, NONE);
        due("three nones", x.direct(0, LONG), NULL);
        takes("the first ends it", x, 1, 1, 0, 1);
    }

    private static void divides(long n, long by, int answer, long want) {
        HandleMirror x = new HandleMirror();
        x.method(0, 0, STATIC, 1, shape(LONG, LONG, LONG));
        x.arg(LONG, n);
        x.arg(LONG, by);
        due(n + " by " + by, x.direct(0, LONG), answer);
        if (answer == 1) due(n + " by " + by + " brings", x.result(2), want);
    }

    private static void quotients() {
        sentence("Terms", "1: THE NUMBER of the first PARAMETER by that of the second, as longs (both asked for; ZERO).");
        divides(7, 2, 1, 3);
        divides(-7, 2, 1, -3);
        divides(0, -1, 1, 0);
        divides(Long.MIN_VALUE, -1, 1, Long.MIN_VALUE);
        divides(Long.MAX_VALUE, Long.MIN_VALUE, 1, 0);
        divides(1, 0, ZERO, 0);
        divides(0, 0, ZERO, 0);
        HandleMirror x = new HandleMirror();
        x.method(0, 0, STATIC, 1, shape(LONG, THING, THING));
        x.give(THING, NONE);
        x.arg(INT, 0);
        due("none by 0", x.direct(0, LONG), NULL);
        x.arg(INT, 1);
        x.give(THING, NONE);
        due("1 by none", x.direct(0, LONG), NULL);
        x.give(THING, NONE);
        x.give(THING, NONE);
        due("none by none", x.direct(0, LONG), NULL);
        takes("none by none", x, 1, 1, 0, 1);
        x.arg(DOUBLE, Double.doubleToRawLongBits(1));
        x.arg(DOUBLE, Double.doubleToRawLongBits(0.9));
        due("by less than one", x.direct(0, LONG), ZERO);
        x.arg(TRUTH, 1);
        x.arg(TRUTH, 0);
        due("by false", x.direct(0, LONG), ZERO);
        due("zeros are counted", x.count(16), 2);
        x.method(0, 1, STATIC, 1, shape(LONG, LONG, DOUBLE));
        x.arg(LONG, 7);
        x.arg(DOUBLE, Double.doubleToRawLongBits(2.9));
        brings("each by its own kind", x, x.direct(1, LONG), LONG, 3);
    }

    /** Rows of BASE with 0, 1 and 8 elements, the last of each an object with the tag 77. */
    private static HandleMirror rowsOfBase() {
        HandleMirror x = new HandleMirror();
        int[] sizes = {0, 1, 8};
        for (int size : sizes) x.row(CLASS_ROW, size);
        x.object(3, 77);
        x.element(1, CLASS_ROW);
        for (int row = 1; row < 3; row++) {
            x.give(CLASS_ROW, row);
            x.arg(INT, sizes[row] - 1);
            x.give(BASE, 3);
            x.run(0, true, NOTHING);
        }
        return x;
    }

    private static void takesElement(int row, long place, int answer) {
        HandleMirror x = rowsOfBase();
        x.method(0, 0, STATIC, 2, shape(INT, CLASS_ROW, LONG));
        x.give(CLASS_ROW, row);
        x.arg(LONG, place);
        due("element " + place + " of row " + row, x.direct(0, INT), answer);
        if (answer == 1) due("its number", x.result(2), 77);
    }

    private static void elementsTaken() {
        sentence("Terms", "2: of the first, a ROW, the ELEMENT at THE NUMBER of the second, cast to int: its NUMBER "
            + "(asked for: the place; then NULL: the ROW; INDEX; NULL: the ELEMENT).");
        takesElement(0, -1, INDEX);
        takesElement(0, 0, INDEX);
        takesElement(1, -1, INDEX);
        takesElement(1, 0, 1);
        takesElement(1, 1, INDEX);
        takesElement(2, 0, NULL);
        takesElement(2, 6, NULL);
        takesElement(2, 7, 1);
        takesElement(2, 8, INDEX);
        takesElement(2, BIG + 7, 1);
        takesElement(2, -BIG + 7, 1);
        takesElement(2, BIG - 1, INDEX);
        takesElement(2, 1L << 31, INDEX);
        takesElement(2, Long.MAX_VALUE, INDEX);
        takesElement(NONE, 8, NULL);
        takesElement(NONE, -1, NULL);
        HandleMirror x = rowsOfBase();
        x.method(0, 0, STATIC, 2, shape(INT, CLASS_ROW, THING));
        x.give(CLASS_ROW, 2);
        x.give(THING, NONE);
        due("no place", x.direct(0, INT), NULL);
        takes("no place", x, 1, 1, 0, 1);
        x.give(CLASS_ROW, NONE);
        x.give(THING, NONE);
        due("no place, no row", x.direct(0, INT), NULL);
        takes("no place, no row", x, 1, 1, 0, 1);
    }

    private static void puts(HandleMirror x, String what, int answer) {
        due(what, x.direct(0, INT), answer);
    }

    private static void elementsPut() {
        sentence("Terms", "3: there comes the third: into PLAIN ELEMENTS its NUMBER, cast (TRUTH: odd)");
        long[] longs = {Long.MIN_VALUE, -129, -2, -1, 0, 1, 2, 128, 32768, 65536, 1L << 31, BIG, (1L << 53) + 1, Long.MAX_VALUE};
        for (int plain = 0; plain < 8; plain++) {
            HandleMirror x = new HandleMirror();
            x.method(0, 0, STATIC, 3, shape(INT, ROW + plain, INT, LONG));
            x.row(ROW + plain, 8);
            for (long n : longs) {
                x.give(ROW + plain, 0);
                x.arg(INT, 7);
                x.arg(LONG, n);
                brings(n + " put into " + plain, x, x.direct(0, INT), INT, 8);
                due("the element", x.told(0, 2, 7), castTo(plain, n));
            }
        }
    }

    private static long castTo(int plain, long n) {
        switch (plain) {
            case TRUTH: return n & 1;
            case BYTE: return (byte) n;
            case SHORT: return (short) n;
            case CHAR: return (char) n;
            case INT: return (int) n;
            case FLOAT: return Float.floatToRawIntBits((float) n);
            case DOUBLE: return Double.doubleToRawLongBits((double) n);
            default: return n;
        }
    }

    private static void elementsPutThemselves() {
        sentence("Terms", "into others the VALUE itself");
        HandleMirror x = new HandleMirror();
        x.method(0, 0, STATIC, 3, shape(INT, CLASS_ROW, INT, THING));
        x.row(CLASS_ROW + 1, 8);
        x.object(1, 5);
        x.object(3, 5);
        int[] things = {1, 2, NONE, 2};
        for (int i = 0; i < 4; i++) {
            x.give(CLASS_ROW, 0);
            ints(x, 2 * i).give(THING, things[i]);
            brings("thing " + things[i], x, x.direct(0, INT), INT, 8);
        }
        for (int i = 0; i < 8; i++) due("element " + i, x.told(0, 2, i), i % 2 == 0 ? things[i / 2] : NONE);
        due("nothing is made", x.count(4), 0);
    }

    private static void elementsPutCast() {
        sentence("Terms", "for others, CAST: it is neither an OBJECT nor NONE");
        for (int kind : KINDS) {
            if (kind == NOTHING) continue;
            HandleMirror x = new HandleMirror();
            x.method(0, 0, STATIC, 3, shape(INT, CLASS_ROW, INT, kind));
            x.row(CLASS_ROW, 1);
            x.give(CLASS_ROW, 0);
            x.arg(INT, 0);
            boolean object = kind >= BASE && kind <= FAR;
            if (kind < NOTHING || kind >= BOX && kind < NUMBER) x.arg(kind, 0);
            else if (kind == THING || isRow(kind)) x.give(kind, x.row(kind == THING ? 24 : kind, 0));
            else if (object) x.give(kind, x.object(kind - BASE, 0));
            else x.give(kind, NONE);
            puts(x, "a value of " + kind, object || kind == NUMBER ? 1 : CAST);
            due("the element", x.told(0, 2, 0), object ? 1 : NONE);
        }
        HandleMirror x = rowsOfBase();
        x.method(0, 0, STATIC, 3, shape(INT, CLASS_ROW, INT, THING));
        x.give(CLASS_ROW, 2);
        x.arg(INT, 7);
        x.give(THING, NONE);
        puts(x, "none", 1);
        due("none is there", x.told(2, 2, 7), NONE);
    }

    /** A row of LEFT, an object of LAST, one of RIGHT; the method that puts. */
    private static HandleMirror putting(int row, long place, int thing) {
        HandleMirror x = new HandleMirror();
        x.method(0, 0, STATIC, 3, shape(INT, CLASS_ROW, THING, THING));
        x.row(CLASS_ROW + 1, 2);
        x.object(3, 1);
        x.object(2, 2);
        x.give(CLASS_ROW, row);
        if (place == Long.MIN_VALUE) x.give(THING, NONE);
        else x.arg(BOX + LONG, place);
        x.give(THING, thing);
        return x;
    }

    private static void elementsPutInOrder() {
        sentence("Terms", "the length (asked for: the place; the NUMBER, or, for others, CAST: it is neither an OBJECT nor NONE; "
            + "then NULL: the ROW; INDEX; STORE: not what the ROW at hand is of).");
        long noPlace = Long.MIN_VALUE;
        puts(putting(NONE, noPlace, 0), "no place, a row", NULL);
        HandleMirror first = putting(NONE, noPlace, 0);
        first.direct(0, INT);
        takes("no place, a row", first, 1, 1, 0, 1);
        puts(putting(NONE, 5, 0), "a row, no row, no such place", CAST);
        puts(putting(NONE, 5, 2), "no row, no such place", NULL);
        puts(putting(0, 2, 2), "no such place, another class", INDEX);
        puts(putting(0, -1, 2), "no such place below, another class", INDEX);
        puts(putting(0, 1, 2), "another class", STORE);
        puts(putting(0, 1, 1), "an object below the class", 1);
        puts(putting(0, 0, 1), "the first place", 1);
        puts(putting(0, BIG, 1), "the first place, cast", 1);
        puts(putting(0, BIG - 1, 1), "a place cast to one below 0", INDEX);
        HandleMirror x = putting(0, 1, 2);
        x.direct(0, INT);
        takes("a failure", x, 2, 1, 0, 4);
        due("nothing is put", x.told(0, 2, 1), NONE);
        x = new HandleMirror();
        x.method(0, 0, STATIC, 3, shape(INT, ROW + INT, THING, THING));
        x.give(ROW + INT, NONE);
        x.arg(INT, 9);
        x.give(THING, NONE);
        puts(x, "no number ahead of no row", NULL);
        x.row(ROW + INT, 0);
        x.give(ROW + INT, 0);
        x.arg(INT, 0);
        x.arg(INT, 0);
        puts(x, "an empty row", INDEX);
    }

    private static void raised() {
        sentence("Terms", "4: FAILURE RAISED (asked for before: NUMBERS as in 0).");
        HandleMirror x = new HandleMirror();
        x.method(0, 0, STATIC, 4, shape(ROW + INT, THING));
        x.arg(INT, -1);
        due("raised, nothing is made of it", x.direct(0, ROW + INT), RAISED);
        x.give(THING, NONE);
        due("null ahead of it", x.direct(0, ROW + INT), NULL);
        due("raised once", x.count(17), 1);
        due("null once", x.count(11), 1);
        x.method(0, 1, STATIC, 4, shape(NOTHING));
        due("without parameters", x.direct(1, NOTHING), RAISED);
    }

    private static void passedItself() {
        sentence("Terms", "5: the first PARAMETER itself (CAST: it is not of the result's KIND).");
        HandleMirror x = new HandleMirror();
        x.method(0, 0, STATIC, 5, shape(LEFT, THING, THING));
        for (int c = 0; c < 5; c++) x.object(c, 10 + c);
        int[] answers = {CAST, 1, CAST, 1, CAST};
        for (int thing = 0; thing < 5; thing++) {
            x.give(THING, thing);
            x.give(THING, NONE);
            due("thing " + thing, x.direct(0, LEFT), answers[thing]);
            if (answers[thing] == 1) due("itself", x.keep(), thing);
        }
        x.give(THING, NONE);
        x.give(THING, 0);
        due("none", x.direct(0, LEFT), 1);
        due("none is brought", x.result(1), NONE);
        due("nothing is made", x.count(4), 0);
    }

    private static void retags(int tag, long sum, int want) {
        HandleMirror x = new HandleMirror();
        x.object(4, tag);
        x.method(0, 0, 0, 6, shape(LONG, LONG));
        x.give(FAR, 0);
        x.arg(LONG, sum);
        brings("the tag before", x, x.direct(0, LONG), LONG, tag);
        due("the tag of " + sum, x.told(0, 1, 0), want);
    }

    private static void retagged() {
        sentence("Terms", "6: the RECEIVER's TAG becomes the sum of THE NUMBERS of all PARAMETERS, cast to int; the TAG before.");
        retags(LOWEST, HIGHEST, HIGHEST);
        retags(HIGHEST, 1L << 31, LOWEST);
        retags(1, BIG, 0);
        retags(0, BIG - 1, -1);
        retags(-1, Long.MIN_VALUE, 0);
        HandleMirror x = receiving(6, shape(NOTHING));
        x.give(BASE, 0);
        due("no parameters", x.direct(0, NOTHING), 1);
        due("the sum of none", x.told(0, 1, 0), 0);
        x = receiving(6, shape(INT, INT, THING));
        x.give(BASE, 0);
        ints(x, 9).give(THING, NONE);
        due("a none among them", x.direct(0, INT), NULL);
        due("the tag stays", x.told(0, 1, 0), 5);
    }

    private static void weight(int c, int tag, int want) {
        HandleMirror x = new HandleMirror();
        x.object(c, tag);
        x.method(0, 0, 0, 7, shape(LONG, THING));
        x.give(BASE, 0);
        x.give(THING, NONE);
        brings("class " + c + " with " + tag, x, x.direct(0, LONG), LONG, want);
    }

    private static void weights() {
        sentence("Terms", "7 WEIGHT of the RECEIVER: a BASE: its TAG; a LEFT: twice what a BASE has, and 1; a RIGHT: as a BASE; "
            + "a LAST: what a LEFT has, and 100; a FAR: what its parent has, and 1000 (ints).");
        int[] tags = {LOWEST, LOWEST + 1, -1, 0, 1, 1 << 30, (1 << 30) - 1, HIGHEST - 1000, HIGHEST - 999, HIGHEST};
        for (int tag : tags) {
            weight(0, tag, tag);
            weight(1, tag, 2 * tag + 1);
            weight(2, tag, tag);
            weight(3, tag, 2 * tag + 101);
            weight(4, tag, tag + 1000);
        }
    }

    private static void fewerParameters() {
        sentence("Terms", "A METHOD's SHAPE is OUTSIDE, if there are fewer than 2 PARAMETERS (1, 2), 3 (3), 1 (5)");
        int[] least = {0, 2, 2, 3, 0, 1, 0, 0};
        for (int act = 0; act <= 7; act++) {
            for (int size = 0; size <= 4; size++) {
                int[] parameters = new int[size];
                for (int i = 0; i < size; i++) parameters[i] = ROW + INT;
                int now = act;
                long shape = shape(THING, parameters);
                bounded("act " + act + " with " + size, size >= least[act], 0, OUTSIDE, x -> x.method(0, 0, 0, now, shape));
            }
        }
    }

    private static void firstIsNoRow() {
        sentence("Terms", "the first of 2, 3 is no ROW");
        for (int kind : KINDS) {
            if (kind == NOTHING) continue;
            bounded("act 2 of " + kind, isRow(kind), 0, OUTSIDE, x -> x.method(0, 0, 0, 2, shape(INT, kind, ROW)));
            bounded("act 3 of " + kind, isRow(kind), 0, OUTSIDE, x -> x.method(0, 0, 0, 3, shape(INT, kind, ROW, ROW)));
        }
    }

    private static void noReference() {
        sentence("Terms", "of 5 it or the result is no REFERENCE");
        for (int kind : KINDS) {
            bounded("result " + kind, isReference(kind), 0, OUTSIDE, x -> x.method(0, 0, 0, 5, shape(kind, THING)));
            if (kind == NOTHING) continue;
            bounded("first " + kind, isReference(kind), 0, OUTSIDE, x -> x.method(0, 0, 0, 5, shape(THING, kind)));
            answers("second " + kind, 0, x -> x.method(0, 0, 0, 5, shape(THING, THING, kind)));
        }
    }

    private static void actsWithStatic() {
        sentence("Terms", "6, 7 with STATIC");
        for (int act = 0; act <= 7; act++) {
            for (int marks = 0; marks <= 7; marks++) {
                int a = act;
                int m = marks;
                boolean inside = act < 6 || marks % 2 == 0;
                bounded("act " + act + ", marks " + marks, inside, 0, OUTSIDE, x -> x.method(0, 0, m, a, shape(THING, 24, 24, 24)));
            }
        }
    }

    private static void variedWithoutARow() {
        sentence("Terms", "VARIED (MAKERS, too), if the last PARAMETER is no ROW.");
        refused("method without parameters", OUTSIDE, x -> x.method(0, 0, VARIED, 0, shape(ROW + INT)));
        refused("maker without parameters", OUTSIDE, x -> x.maker(0, VARIED, shape(NOTHING)));
        for (int kind : KINDS) {
            if (kind == NOTHING) continue;
            long last = shape(INT, ROW, kind);
            long first = shape(INT, kind, ROW);
            bounded("method with the last " + kind, isRow(kind), 0, OUTSIDE, x -> x.method(0, 0, VARIED, 0, last));
            bounded("maker with the last " + kind, isRow(kind), 0, OUTSIDE, x -> x.maker(0, VARIED, shape(NOTHING, ROW, kind)));
            answers("method with the first " + kind, 0, x -> x.method(0, 0, VARIED, 0, first));
        }
    }

    private static void makersTag() {
        sentence("Terms", "A MAKER's OBJECT has as TAG the sum of THE NUMBERS of all VALUES, cast to int.");
        long[][] pairs = {{0, 0}, {HIGHEST, 0}, {HIGHEST, 1}, {LOWEST, -1}, {BIG, 7}, {Long.MAX_VALUE, 1}, {Long.MAX_VALUE, Long.MAX_VALUE}};
        for (long[] pair : pairs) {
            HandleMirror x = members(new HandleMirror(), 3);
            x.maker(3, 0, shape(NOTHING, LONG, LONG));
            x.arg(LONG, pair[0]);
            x.arg(LONG, pair[1]);
            brings("of " + pair[0] + " and " + pair[1], x, x.direct(3, LAST), LAST, (int) (pair[0] + pair[1]));
        }
        HandleMirror x = new HandleMirror();
        x.maker(2, 0, shape(NOTHING));
        brings("of none", x, x.direct(0, RIGHT), RIGHT, 0);
        x.maker(2, 0, shape(NOTHING, THING));
        x.give(THING, NONE);
        due("a none among them", x.direct(1, RIGHT), NULL);
        due("one made", x.count(4), 1);
    }
}
