/** Boundary cases of promises 1 to 7: a new object, things, args. */
public final class BoundsThingsTest extends Bounds {
    private static final int[] CLASSES = {LOWEST, -1, 0, 1, 2, 3, 4, 5, 30, 256, HIGHEST};

    public static void main(String[] args) {
        nothingAtFirst();
        nestsAtFirst();
        objectOutside();
        objectFull();
        rowOutside();
        rowFull();
        rowBelow0();
        argIsCast();
        argOutside();
        argFull();
        giveUnknown();
        giveNoReference();
        giveFull();
        giveCast();
        forgetNoneAndAll();
        toldKindAndBits();
        toldElements();
        toldUnnumbered();
        toldFields();
        toldStatics();
        toldNoneSuch();
        toldUnknownAndOutside();
        end("BoundsThingsTest", 1, 7);
    }

    // ---- 1

    private static void nothingAtFirst() {
        promise(1, "No THINGS, MEMBERS, HANDLES, ARGS");
        HandleMirror old = made(things(60), 7);
        members(handles(old, 60), 24);
        ints(old, 1, 2, 3);
        HandleMirror x = new HandleMirror();
        for (int what = 0; what <= 4; what++) due("count " + what, x.count(what), 0);
        for (int failure = 1; failure <= 10; failure++) due("failures " + failure, x.count(10 + failure), 0);
        due("thing 0", x.told(0, 0, 0), UNKNOWN);
        due("member 0", x.direct(0, INT), UNKNOWN);
        due("handle 0", x.shape(0), UNKNOWN);
        due("args", x.forget(), 0);
        due("the latest of args", x.constant(), STATE);
        due("a result", x.result(0), STATE);
        due("to keep", x.keep(), STATE);
        due("steps", x.last(0), 0);
    }

    private static void nestsAtFirst() {
        promise(1, "NESTS as told.");
        HandleMirror x = new HandleMirror();
        for (int c = 0; c < 5; c++) due("nest of " + c, x.nest(c, 0), c);
    }

    // ---- 2

    private static void objectOutside() {
        promise(2, "A new OBJECT of a CLASS: the THING's number. OUTSIDE");
        for (int c : CLASSES) {
            given(() -> things(3));
            bounded("class " + c, c >= 0 && c <= 4, 3, OUTSIDE, x -> x.object(c, 1));
            given(() -> things(60));
            refused("class " + c + " when full", c >= 0 && c <= 4 ? FULL : OUTSIDE, x -> x.object(c, 1));
        }
    }

    private static void objectFull() {
        promise(2, "OUTSIDE; FULL.");
        for (int n = 0; n < 60; n += n == 1 ? 57 : 1) {
            int now = n;
            given(() -> things(now));
            answers("object " + n, n, x -> x.object(4, LOWEST));
        }
        given(() -> things(60));
        refused("object 60", FULL, x -> x.object(4, LOWEST));
        answers("objects of object() are not made", 0, x -> x.count(4));
    }

    // ---- 3

    private static void rowOutside() {
        promise(3, "OUTSIDE: the KIND, n is above 8");
        int[] sizes = {0, 1, 7, 8, 9, 10, 256, HIGHEST};
        for (int kind = 18; kind <= 46; kind++) {
            int now = kind;
            for (int n : sizes) bounded(n + " of " + kind, isRow(kind) && n <= 8, 0, OUTSIDE, x -> x.row(now, n));
            bounded("-1 of " + kind, false, 0, isRow(kind) ? SIZE : OUTSIDE, x -> x.row(now, -1));
        }
        given(() -> things(60));
        refused("a kind, full", OUTSIDE, x -> x.row(28, 0));
        refused("above 8, full", OUTSIDE, x -> x.row(27, 9));
        refused("a kind, full, below 0", OUTSIDE, x -> x.row(39, -1));
    }

    private static void rowFull() {
        promise(3, "FULL; minus 5 (SIZE)");
        given(() -> things(59));
        answers("the 60th", 59, x -> x.row(40, 8));
        refused("the 60th below 0", SIZE, x -> x.row(40, -1));
        given(() -> things(60));
        refused("the 61st", FULL, x -> x.row(40, 8));
        refused("the 61st, below 0", FULL, x -> x.row(40, -1));
    }

    private static void rowBelow0() {
        promise(3, "minus 5 (SIZE): n is below 0.");
        int[] sizes = {-1, -2, -256, LOWEST};
        for (int n : sizes) refused("row of " + n, SIZE, x -> x.row(24, n));
        answers("row of 0", 0, x -> x.row(24, 0));
    }

    // ---- 4

    private static void argIsCast() {
        promise(4, "A VALUE of a PLAIN KIND (bits cast to it; TRUTH: odd), or a BOX of it (kind 10 to 17)");
        long[] all = {Long.MIN_VALUE, -(1L << 32) - 1, LOWEST - 1L, LOWEST, -65537, -32769, -32768, -129, -128, -2, -1, 0, 1, 2, 127, 128, 255, 256,
            32767, 32768, 65535, 65536, HIGHEST, HIGHEST + 1L, 1L << 32, (1L << 32) + 1, Long.MAX_VALUE};
        for (long bits : all) {
            long[] cast = {bits & 1, (byte) bits, (short) bits, (char) bits, (int) bits, bits};
            for (int kind = TRUTH; kind <= LONG; kind++) {
                for (int box = 0; box <= BOX; box += BOX) {
                    HandleMirror x = new HandleMirror();
                    due("arg", x.arg(kind + box, bits), 1);
                    x.constant();
                    brings(bits + " of kind " + (kind + box), x, x.run(0, true, kind + box), kind + box, cast[kind]);
                }
            }
        }
    }

    private static void argOutside() {
        promise(4, "OUTSIDE: the KIND, no number");
        for (int kind = -1; kind <= 45; kind++) {
            int now = kind;
            boolean inside = kind >= 0 && kind <= 7 || kind >= 10 && kind <= 17;
            bounded("kind " + kind, inside, 1, OUTSIDE, x -> x.arg(now, 0));
        }
        long[] edges = {0x7f7fffffL, 0x7f800000L, 0x7f800001L, 0xff800000L, 0xff800001L, 0xffffffffL, 0x100000000L};
        for (long bits : edges) {
            boolean number = (bits & 0x7fffffff) <= 0x7f800000;
            bounded("float " + Long.toHexString(bits), number, 1, OUTSIDE, x -> x.arg(FLOAT, bits));
            bounded("box of float " + Long.toHexString(bits), number, 1, OUTSIDE, x -> x.arg(BOX + FLOAT, bits));
            answers("int " + Long.toHexString(bits), 1, x -> x.arg(INT, bits));
            answers("double " + Long.toHexString(bits), 1, x -> x.arg(DOUBLE, bits));
        }
        refused("double", OUTSIDE, x -> x.arg(DOUBLE, 0x7ff0000000000001L));
        refused("box of double", OUTSIDE, x -> x.arg(BOX + DOUBLE, 0xfff0000000000001L));
        answers("infinite", 1, x -> x.arg(DOUBLE, 0xfff0000000000000L));
    }

    private static void argFull() {
        promise(4, "FULL: there are 6.");
        for (int n = 0; n <= 6; n++) {
            int now = n;
            given(() -> withArgs(new HandleMirror(), now));
            bounded("plain behind " + n, n < 6, n + 1, FULL, x -> x.arg(LONG, 5));
            bounded("box behind " + n, n < 6, n + 1, FULL, x -> x.arg(BOX + LONG, 5));
        }
        refused("a kind, full", OUTSIDE, x -> x.arg(THING, 0));
        refused("no number, full", OUTSIDE, x -> x.arg(FLOAT, 0x7fc00000));
    }

    // ---- 5

    private static void giveUnknown() {
        promise(5, "A THING, or NONE (-1), comes behind ARGS as of a KIND: how many there are. UNKNOWN");
        for (int n = 0; n <= 60; n += n == 1 ? 59 : 1) {
            int now = n;
            given(() -> things(now));
            int[] numbers = {LOWEST, -2, -1, 0, n - 1, n, n + 1, HIGHEST};
            for (int thing : numbers) {
                boolean known = thing >= -1 && thing < n;
                bounded("thing " + thing + " of " + n, known, 1, UNKNOWN, x -> x.give(THING, thing));
            }
            refused("unknown, no reference", UNKNOWN, x -> x.give(INT, now));
        }
        given(() -> withArgs(things(1), 6));
        refused("unknown, full", UNKNOWN, x -> x.give(THING, 1));
        refused("unknown, no reference, full", UNKNOWN, x -> x.give(99, -2));
    }

    private static void giveNoReference() {
        promise(5, "OUTSIDE: it is no REFERENCE");
        for (int kind = -1; kind <= 46; kind++) {
            int now = kind;
            given(() -> things(1));
            bounded("none as " + kind, isReference(kind), 1, OUTSIDE, x -> x.give(now, NONE));
            if (!isReference(kind)) refused("a thing as " + kind, OUTSIDE, x -> x.give(now, 0));
            given(() -> withArgs(things(1), 6));
            refused("none as " + kind + ", full", isReference(kind) ? FULL : OUTSIDE, x -> x.give(now, NONE));
        }
    }

    private static void giveFull() {
        promise(5, "FULL; minus 2 (CAST)");
        for (int n = 0; n <= 6; n++) {
            int now = n;
            given(() -> withArgs(things(1), now));
            bounded("none behind " + n, n < 6, n + 1, FULL, x -> x.give(LEFT, NONE));
            bounded("a thing behind " + n, n < 6, n + 1, FULL, x -> x.give(BASE, 0));
            refused("not of it behind " + n, n < 6 ? CAST : FULL, x -> x.give(LEFT, 0));
        }
    }

    private static void giveCast() {
        promise(5, "minus 2 (CAST): the THING is not of it.");
        given(() -> {
            HandleMirror x = new HandleMirror();
            for (int c = 0; c < 5; c++) x.object(c, 0);
            for (int c = 0; c < 5; c++) x.row(CLASS_ROW + c, 0);
            return x;
        });
        String[] below = {"01234", "13", "24", "3", "4"};
        for (int c = 0; c < 5; c++) {
            for (int thing = 0; thing < 5; thing++) {
                int kind = BASE + c;
                int number = thing;
                boolean is = below[c].indexOf('0' + thing) >= 0;
                bounded("class " + thing + " as " + c, is, 1, CAST, x -> x.give(kind, number));
                bounded("row " + thing + " as " + c, is, 1, CAST, x -> x.give(kind + 10, number + 5));
                refused("object as a row", CAST, x -> x.give(kind + 10, number));
                refused("row as an object", CAST, x -> x.give(kind, number + 5));
            }
        }
        for (int kind = BOX; kind <= NUMBER; kind++) {
            int now = kind;
            refused("object as " + kind, CAST, x -> x.give(now, 0));
        }
        for (int kind = ROW; kind <= ROW + 7; kind++) {
            int now = kind;
            refused("row of a class as " + kind, CAST, x -> x.give(now, 5));
        }
    }

    // ---- 6

    private static void forgetNoneAndAll() {
        promise(6, "ARGS are emptied: how many went.");
        for (int n = 0; n <= 6; n++) {
            HandleMirror x = withArgs(new HandleMirror(), n);
            due("went", x.forget(), n);
            due("none are left", x.count(3), 0);
            due("none went then", x.forget(), 0);
            due("the next is the first", x.arg(INT, 1), 1);
        }
    }

    // ---- 7

    private static void toldKindAndBits() {
        promise(7, "what = 0 its KIND; 1 of a BOX the bits, of an OBJECT its TAG, of a ROW its length");
        HandleMirror x = new HandleMirror();
        x.object(4, LOWEST);
        x.object(0, HIGHEST);
        x.row(20, 0);
        x.row(44, 8);
        x.same(THING);
        x.arg(BOX + LONG, Long.MIN_VALUE);
        x.run(0, false, THING);
        due("kept", x.keep(), 4);
        long[][] want = {{FAR, LOWEST}, {BASE, HIGHEST}, {20, 0}, {44, 8}, {BOX + LONG, Long.MIN_VALUE}};
        int[] places = {LOWEST, -1, 0, 99, HIGHEST};
        for (int thing = 0; thing < 5; thing++) {
            for (int i : places) {
                due("kind of " + thing, x.told(thing, 0, i), want[thing][0]);
                due("bits of " + thing, x.told(thing, 1, i), want[thing][1]);
            }
        }
    }

    private static void toldElements() {
        promise(7, "2 of a ROW ELEMENT i: bits, of a CLASS the THING's number (NONE: it is NONE");
        HandleMirror x = new HandleMirror();
        x.row(ROW + LONG, 8);
        x.row(CLASS_ROW, 8);
        x.object(0, 5);
        x.element(1, ROW + LONG);
        x.element(1, CLASS_ROW);
        int[] places = {0, 7};
        for (int place : places) {
            x.give(ROW + LONG, 0);
            ints(x, place).arg(LONG, Long.MIN_VALUE);
            x.run(0, true, NOTHING);
            x.give(CLASS_ROW, 1);
            ints(x, place).give(BASE, 2);
            x.run(1, true, NOTHING);
        }
        int[] asked = {LOWEST, -1, 0, 1, 6, 7, 8, 9, HIGHEST};
        long[] plain = {0, 0, Long.MIN_VALUE, 0, 0, Long.MIN_VALUE, 0, 0, 0};
        long[] things = {0, 0, 2, NONE, NONE, 2, 0, 0, 0};
        for (int i = 0; i < asked.length; i++) {
            due("element " + asked[i], x.told(0, 2, asked[i]), plain[i]);
            due("thing at " + asked[i], x.told(1, 2, asked[i]), things[i]);
            due("an object has none", x.told(2, 2, asked[i]), 0);
        }
    }

    private static void toldUnnumbered() {
        promise(7, "-2: it has none)");
        HandleMirror x = new HandleMirror();
        x.field(0, 0, 0, THING);
        x.object(0, 0);
        int set = x.find(5, 0, 0, shape(THING), 0);
        int get = x.find(4, 0, 0, shape(THING), 0);
        x.give(BASE, 0);
        x.arg(BOX + INT, 3);
        due("set", x.run(set, false, NOTHING), 1);
        due("a box without a number", x.told(0, 3, 0), -2);
        x.give(BASE, 0);
        x.run(get, true, THING);
        due("kept", x.keep(), 1);
        due("it has one then", x.told(0, 3, 0), 1);
        x.give(BASE, 0);
        x.give(THING, 0);
        x.run(set, true, NOTHING);
        due("itself", x.told(0, 3, 0), 0);
    }

    private static void toldFields() {
        promise(7, "3 of an OBJECT its FIELD i (a MEMBER that is not STATIC, of a CLASS that it is): likewise");
        HandleMirror x = new HandleMirror();
        for (int c = 0; c < 5; c++) x.object(c, 100 + c);
        for (int c = 0; c < 5; c++) x.field(c, 0, FINAL, INT);
        x.row(24, 0);
        String[] above = {"0", "01", "02", "013", "024"};
        for (int c = 0; c < 5; c++) {
            for (int m = 0; m < 5; m++) {
                boolean has = above[c].indexOf('0' + m) >= 0;
                due("field of " + m + " in " + c, x.told(c, 3, m), has ? 100 + c : 0);
            }
        }
        for (int m = -1; m <= 5; m++) due("a row has no field " + m, x.told(5, 3, m), 0);
    }

    private static void toldStatics() {
        promise(7, "(STATIC ones: thing = NONE)");
        HandleMirror x = new HandleMirror();
        x.object(0, 9);
        x.field(0, 0, FINAL, INT);
        x.field(0, 1, STATIC | FINAL, INT);
        x.field(4, 1, STATIC | FINAL, LONG);
        due("not static, of none", x.told(NONE, 3, 0), 0);
        due("static, of none", x.told(NONE, 3, 1), 1);
        due("static of another class, of none", x.told(NONE, 3, 2), 2);
        due("static, of an object", x.told(0, 3, 1), 0);
        due("not static, of an object", x.told(0, 3, 0), 9);
    }

    private static void toldNoneSuch() {
        promise(7, "0 if there is none such.");
        HandleMirror x = new HandleMirror();
        x.object(0, 9);
        x.method(0, 0, 0, 0, shape(INT));
        x.maker(0, 0, shape(NOTHING));
        int[] members = {LOWEST, -1, 0, 1, 2, 23, 24, HIGHEST};
        for (int m : members) {
            due("no field " + m, x.told(0, 3, m), 0);
            due("no static field " + m, x.told(NONE, 3, m), 0);
        }
    }

    private static void toldUnknownAndOutside() {
        promise(7, "UNKNOWN; OUTSIDE: what is not 0 .. 3, or not 3 without a THING.");
        int[] whats = {LOWEST, -1, 0, 1, 2, 3, 4, HIGHEST};
        int[] sizes = {0, 1, 60};
        for (int n : sizes) {
            given(() -> things(n));
            int[] numbers = {LOWEST, -2, -1, 0, n - 1, n, HIGHEST};
            for (int thing : numbers) {
                for (int what : whats) {
                    boolean known = thing >= -1 && thing < n;
                    boolean inside = what == 3 || what >= 0 && what < 3 && thing >= 0;
                    String label = what + " of thing " + thing + " of " + n;
                    if (known && inside) answers(label, what == 0 ? BASE : what == 1 ? thing : 0, x -> x.told(thing, what, 0));
                    else refused(label, known ? OUTSIDE : UNKNOWN, x -> x.told(thing, what, 0));
                }
            }
        }
    }
}
