/** Boundary cases of promises 8 to 11: nests, methods, fields, makers. */
public final class BoundsMembersTest extends Bounds {
    private static final int[] CLASSES = {LOWEST, -1, 0, 4, 5, 30, HIGHEST};
    private static final long INTS = shape(INT), NONE_MADE = shape(NOTHING);

    public static void main(String[] args) {
        nestOutside();
        nestWas();
        methodOutside();
        methodActs();
        methodState();
        methodFull();
        fieldOutside();
        fieldState();
        fieldFull();
        fieldEight();
        makerOutside();
        makerParameters();
        makerState();
        makerFull();
        end("BoundsMembersTest", 8, 11);
    }

    // ---- 8

    private static void nestOutside() {
        promise(8, "The NEST of a CLASS becomes n (0 to 4): what it was. OUTSIDE.");
        for (int c : CLASSES) {
            for (int n : CLASSES) {
                boolean inside = c >= 0 && c <= 4 && n >= 0 && n <= 4;
                bounded("nest " + n + " of " + c, inside, c, OUTSIDE, x -> x.nest(c, n));
            }
        }
    }

    private static void nestWas() {
        promise(8, "becomes n (0 to 4): what it was.");
        HandleMirror x = new HandleMirror();
        due("at first", x.nest(2, 4), 2);
        due("outside", x.nest(2, 5), OUTSIDE);
        due("then", x.nest(2, 0), 4);
        due("the same again", x.nest(2, 0), 0);
        due("still", x.nest(2, 2), 0);
        due("another class", x.nest(4, 4), 4);
    }

    // ---- 9

    /** All that a method's number can be outside of, one by one, in some situation. */
    private static void methodsOutside(String when) {
        for (int c : CLASSES) {
            if (c < 0 || c > 4) refused("class " + c + when, OUTSIDE, x -> x.method(c, 0, 0, 0, INTS));
        }
        refused("name -1" + when, OUTSIDE, x -> x.method(0, -1, 0, 0, INTS));
        refused("name 16" + when, OUTSIDE, x -> x.method(0, 16, 0, 0, INTS));
        refused("marks -1" + when, OUTSIDE, x -> x.method(0, 0, -1, 0, INTS));
        refused("marks 8" + when, OUTSIDE, x -> x.method(0, 0, 8, 0, INTS));
        refused("act -1" + when, OUTSIDE, x -> x.method(0, 0, 0, -1, INTS));
        refused("act 8" + when, OUTSIDE, x -> x.method(0, 0, 0, 8, INTS));
        refused("no shape" + when, OUTSIDE, x -> x.method(0, 0, 0, 0, 0));
        refused("five parameters" + when, OUTSIDE, x -> x.method(0, 0, 0, 0, shape(INT, 4, 4, 4, 4, 4)));
        refused("a shape that is none of the act" + when, OUTSIDE, x -> x.method(0, 0, 0, 1, INTS));
        refused("static weight" + when, OUTSIDE, x -> x.method(0, 0, STATIC, 7, INTS));
        refused("varied without a row" + when, OUTSIDE, x -> x.method(0, 0, VARIED, 0, INTS));
    }

    private static void methodOutside() {
        promise(9, "OUTSIDE: CLASS, NAME, MARKS, ACT (0 to 7), SHAPE");
        methodsOutside("");
        for (int c = 0; c <= 4; c += 4) {
            for (int name = 0; name <= 15; name += 15) {
                int in = c;
                int called = name;
                answers("inside", 0, x -> x.method(in, called, STATIC | PRIVATE | VARIED, 0, shape(NOTHING, INT, ROW)));
            }
        }
        given(() -> {
            HandleMirror x = new HandleMirror();
            x.method(0, 0, 0, 0, INTS);
            return x;
        });
        methodsOutside(", there is such a one");
        given(() -> members(new HandleMirror(), 24));
        methodsOutside(", full");
    }

    private static void methodActs() {
        promise(9, "ACT (0 to 7)");
        int[] acts = {LOWEST, -1, 0, 1, 2, 3, 4, 5, 6, 7, 8, 9, 256, HIGHEST};
        for (int act : acts) {
            bounded("act " + act, act >= 0 && act <= 7, 0, OUTSIDE, x -> x.method(0, 0, 0, act, shape(THING, 24, 24, 24)));
        }
    }

    private static void methodState() {
        promise(9, "STATE: the CLASS has a METHOD of this NAME and SHAPE");
        given(() -> {
            HandleMirror x = new HandleMirror();
            x.method(1, 3, 0, 0, shape(INT, INT));
            x.field(1, 4, 0, INT);
            x.maker(1, 0, NONE_MADE);
            return x;
        });
        refused("again", STATE, x -> x.method(1, 3, 0, 0, shape(INT, INT)));
        refused("again with other marks and another act", STATE, x -> x.method(1, 3, STATIC | PRIVATE, 4, shape(INT, INT)));
        answers("the class above", 3, x -> x.method(0, 3, 0, 0, shape(INT, INT)));
        answers("a class below", 3, x -> x.method(3, 3, 0, 0, shape(INT, INT)));
        answers("another name", 3, x -> x.method(1, 2, 0, 0, shape(INT, INT)));
        answers("another result", 3, x -> x.method(1, 3, 0, 0, shape(LONG, INT)));
        answers("another parameter", 3, x -> x.method(1, 3, 0, 0, shape(INT, LONG)));
        answers("fewer parameters", 3, x -> x.method(1, 3, 0, 0, shape(INT)));
        answers("more parameters", 3, x -> x.method(1, 3, 0, 0, shape(INT, INT, INT)));
        answers("a field's name and kind", 3, x -> x.method(1, 4, 0, 0, INTS));
        answers("a maker's shape", 3, x -> x.method(1, 0, 0, 0, NONE_MADE));
    }

    private static void methodFull() {
        promise(9, "STATE: the CLASS has a METHOD of this NAME and SHAPE; FULL.");
        given(() -> members(new HandleMirror(), 23));
        answers("the 24th", 23, x -> x.method(0, 0, 0, 0, INTS));
        given(() -> members(new HandleMirror(), 24));
        refused("the 25th", FULL, x -> x.method(0, 0, 0, 0, INTS));
        refused("the 25th, there is such a one", STATE, x -> x.method(4, 15, 0, 0, shape(DOUBLE, DOUBLE, BYTE)));
    }

    // ---- 10

    private static void fieldsOutside(String when) {
        for (int c : CLASSES) {
            if (c < 0 || c > 4) refused("class " + c + when, OUTSIDE, x -> x.field(c, 0, 0, INT));
        }
        refused("name -1" + when, OUTSIDE, x -> x.field(0, -1, 0, INT));
        refused("name 16" + when, OUTSIDE, x -> x.field(0, 16, 0, INT));
        refused("marks -1" + when, OUTSIDE, x -> x.field(0, 0, -1, INT));
        refused("marks 4" + when, OUTSIDE, x -> x.field(0, 0, 4, INT));
        refused("marks 16" + when, OUTSIDE, x -> x.field(0, 0, 16, INT));
        refused("kind -1" + when, OUTSIDE, x -> x.field(0, 0, 0, -1));
        refused("nothing" + when, OUTSIDE, x -> x.field(0, 0, 0, NOTHING));
        refused("kind 19" + when, OUTSIDE, x -> x.field(0, 0, 0, 19));
        refused("kind 45" + when, OUTSIDE, x -> x.field(0, 0, 0, 45));
    }

    /** So many fields of class 4, of several kinds. */
    private static HandleMirror fields(int n) {
        HandleMirror x = new HandleMirror();
        for (int i = 0; i < n; i++) x.field(4, 9, i % 2, INT + i % 4 + 5 * (i / 4));
        return x;
    }

    private static void fieldOutside() {
        promise(10, "OUTSIDE: CLASS, NAME, MARKS, KIND");
        fieldsOutside("");
        answers("inside", 0, x -> x.field(0, 0, 0, TRUTH));
        answers("inside above", 0, x -> x.field(4, 15, STATIC | PRIVATE | FINAL, CLASS_ROW + 4));
        given(() -> {
            HandleMirror x = new HandleMirror();
            x.field(0, 0, 0, INT);
            return x;
        });
        fieldsOutside(", there is such a one");
        given(() -> fields(8));
        fieldsOutside(", 8 fields");
        given(() -> members(new HandleMirror(), 24));
        fieldsOutside(", full");
    }

    private static void fieldState() {
        promise(10, "STATE: the CLASS has a FIELD of this NAME and KIND");
        given(() -> {
            HandleMirror x = new HandleMirror();
            x.field(1, 3, 0, INT);
            x.method(1, 4, 0, 0, INTS);
            return x;
        });
        refused("again", STATE, x -> x.field(1, 3, 0, INT));
        refused("again with other marks", STATE, x -> x.field(1, 3, STATIC | FINAL, INT));
        answers("another kind", 2, x -> x.field(1, 3, 0, LONG));
        answers("another name", 2, x -> x.field(1, 2, 0, INT));
        answers("the class above", 2, x -> x.field(0, 3, 0, INT));
        answers("a class below", 2, x -> x.field(3, 3, 0, INT));
        answers("a method's name and result", 2, x -> x.field(1, 4, 0, INT));
    }

    private static void fieldFull() {
        promise(10, "STATE: the CLASS has a FIELD of this NAME and KIND; FULL");
        given(() -> members(fields(7), 23));
        answers("the 24th member, the 8th field", 23, x -> x.field(0, 0, 0, INT));
        given(() -> members(fields(7), 24));
        refused("the 25th member, the 8th field", FULL, x -> x.field(0, 0, 0, INT));
        refused("there is such a one", STATE, x -> x.field(4, 9, 0, INT));
    }

    private static void fieldEight() {
        promise(10, "(also: there are 8 FIELDS)");
        for (int n = 0; n <= 8; n++) {
            int now = n;
            given(() -> fields(now));
            answers("members", n, x -> x.count(1));
            bounded("one behind " + n, n < 8, n, FULL, x -> x.field(0, 0, 0, INT));
            bounded("a static one behind " + n, n < 8, n, FULL, x -> x.field(0, 0, STATIC, INT));
            answers("a method behind " + n, n, x -> x.method(0, 0, 0, 0, INTS));
            answers("a maker behind " + n, n, x -> x.maker(0, 0, NONE_MADE));
        }
        refused("there is such a one", STATE, x -> x.field(4, 9, 0, INT));
        HandleMirror x = fields(7);
        due("the 8th is of use", x.field(0, 0, FINAL, INT), 7);
        x.object(0, 55);
        due("told", x.told(0, 3, 7), 55);
    }

    // ---- 11

    private static void makersOutside(String when) {
        for (int c : CLASSES) {
            if (c < 0 || c > 4) refused("class " + c + when, OUTSIDE, x -> x.maker(c, 0, NONE_MADE));
        }
        refused("marks -1" + when, OUTSIDE, x -> x.maker(0, -1, NONE_MADE));
        refused("marks 1" + when, OUTSIDE, x -> x.maker(0, 1, NONE_MADE));
        refused("marks 8" + when, OUTSIDE, x -> x.maker(0, 8, NONE_MADE));
        refused("no shape" + when, OUTSIDE, x -> x.maker(0, 0, 0));
        refused("a result" + when, OUTSIDE, x -> x.maker(0, 0, shape(BASE)));
        refused("five parameters" + when, OUTSIDE, x -> x.maker(0, 0, shape(NOTHING, 4, 4, 4, 4, 4)));
        refused("varied without a row" + when, OUTSIDE, x -> x.maker(0, VARIED, NONE_MADE));
    }

    private static HandleMirror maker() {
        HandleMirror x = new HandleMirror();
        x.maker(0, 0, NONE_MADE);
        x.method(2, 0, 0, 0, NONE_MADE);
        return x;
    }

    private static void makerOutside() {
        promise(11, "OUTSIDE: CLASS, MARKS, SHAPE (the result, too");
        makersOutside("");
        answers("inside", 0, x -> x.maker(0, 0, NONE_MADE));
        answers("inside above", 0, x -> x.maker(4, PRIVATE | VARIED, shape(NOTHING, 4, 4, 4, 44)));
        given(BoundsMembersTest::maker);
        makersOutside(", there is such a one");
        given(() -> members(new HandleMirror(), 24));
        makersOutside(", full");
    }

    private static void makerParameters() {
        promise(11, "4 PARAMETERS at most)");
        for (int size = 0; size <= 6; size++) {
            int[] parameters = new int[size];
            for (int i = 0; i < size; i++) parameters[i] = THING;
            bounded(size + " parameters", size <= 4, 0, OUTSIDE, x -> x.maker(0, 0, shape(NOTHING, parameters)));
        }
    }

    private static void makerState() {
        promise(11, "STATE: the CLASS has a MAKER of this SHAPE");
        given(BoundsMembersTest::maker);
        refused("again", STATE, x -> x.maker(0, 0, NONE_MADE));
        refused("again with other marks", STATE, x -> x.maker(0, PRIVATE, NONE_MADE));
        answers("another class", 2, x -> x.maker(1, 0, NONE_MADE));
        answers("a class with a method of this shape", 2, x -> x.maker(2, 0, NONE_MADE));
        answers("another shape", 2, x -> x.maker(0, 0, shape(NOTHING, INT)));
    }

    private static void makerFull() {
        promise(11, "STATE: the CLASS has a MAKER of this SHAPE; FULL.");
        given(() -> members(maker(), 23));
        answers("the 24th", 23, x -> x.maker(3, 0, NONE_MADE));
        given(() -> members(maker(), 24));
        refused("the 25th", FULL, x -> x.maker(3, 0, NONE_MADE));
        refused("there is such a one", STATE, x -> x.maker(0, 0, NONE_MADE));
    }
}
