/** What methods do (the terms), seen through direct() and run(). */
public final class ActsTest {
    public static void main(String[] args) {
        sum();
        made();
        quotient();
        take();
        put();
        raise();
        pass();
        retag();
        weight();
        makersFail();
        Check.end("ActsTest");
    }

    private static void direct(HandleMirror x, String what, int m, int kind, int answer, long bits) {
        Check.due(what, x.direct(m, kind), answer);
        if (answer == 1) Check.due(what + ", bits", x.result(2), bits);
    }

    private static void sum() {
        HandleMirror x = new HandleMirror();
        x.method(0, 0, 1, 0, Check.shape(Check.INT));
        x.method(0, 0, 0, 0, Check.shape(Check.LONG, Check.THING, Check.FLOAT, Check.TRUTH, Check.ROW));
        x.object(2, -100);
        x.row(Check.ROW, 5);
        x.give(Check.RIGHT, 0);
        x.arg(Check.BOX + Check.CHAR, 65535);
        x.arg(Check.FLOAT, Float.floatToRawIntBits(-7.9f));
        x.arg(Check.TRUTH, 1);
        x.give(Check.ROW, 1);
        direct(x, "sum", 1, Check.LONG, 1, 1000 - 100 + 65535 - 7 + 1 + 5);
        x.give(Check.RIGHT, -1);
        for (int i = 0; i < 2; i++) x.give(Check.THING, -1);
        x.arg(Check.TRUTH, 1);
        x.give(Check.ROW, 1);
        direct(x, "receiver is none, ahead of all", 1, Check.LONG, Check.NULL, 0);
        x.give(Check.RIGHT, 0);
        x.give(Check.THING, -1);
        x.arg(Check.FLOAT, 0);
        x.arg(Check.TRUTH, 1);
        x.give(Check.ROW, 1);
        direct(x, "a value is none", 1, Check.LONG, Check.NULL, 0);
        Check.due("one failure", x.last(1), 1);
        x.method(0, 1, 1, 0, Check.shape(Check.LONG, Check.DOUBLE, Check.LONG));
        x.arg(Check.DOUBLE, Double.doubleToRawLongBits(1e300));
        x.arg(Check.LONG, 1);
        direct(x, "a sum runs over", 2, Check.LONG, 1, Long.MAX_VALUE + 1 + 2000);
    }

    /** A method without parameters brings 1000 times its number: what is made of 1000 * m. */
    private static void made() {
        for (int kind : Check.KINDS) {
            HandleMirror x = new HandleMirror();
            for (int i = 0; i < 3; i++) x.method(0, i, 1, 0, Check.shape(kind));
            int answer = x.direct(2, kind);
            Check.due("made " + kind, answer, 1);
            long value = kind == Check.NOTHING ? 8 : kind == Check.THING || kind == Check.NUMBER ? Check.BOX + Check.LONG : kind;
            Check.due("kind of what is made " + kind, x.result(1), value);
            Check.due("bits of what is made " + kind, x.result(2), madeBits(kind));
            boolean counted = kind > Check.NOTHING;
            Check.due("counted as made " + kind, x.count(4), counted ? 1 : 0);
        }
        HandleMirror x = new HandleMirror();
        x.method(0, 0, 1, 0, Check.shape(Check.ROW + 4, Check.LONG));
        madeRow(x, -1, Check.SIZE, 0);
        madeRow(x, 0, 1, 0);
        madeRow(x, 8, 1, 8);
        madeRow(x, 9, 1, 8);
        madeRow(x, 1L << 32, 1, 0);
        madeRow(x, 1L << 31, Check.SIZE, 0);
        x.method(0, 0, 1, 0, Check.shape(Check.LEFT, Check.LONG));
        x.arg(Check.LONG, (1L << 32) + 5 - 1000);
        direct(x, "a tag is an int", 1, Check.BASE, 1, 5);
        Check.due("an object's kind", x.result(1), Check.LEFT);
    }

    private static void madeRow(HandleMirror x, long n, int answer, long length) {
        x.arg(Check.LONG, n);
        direct(x, "a row of " + n, 0, Check.ROW + 4, answer, length);
    }

    private static long madeBits(int kind) {
        if (kind == Check.NOTHING) return 0;
        int plain = kind >= Check.BOX && kind < Check.NUMBER ? kind - Check.BOX : kind;
        if (plain == Check.TRUTH) return 0;
        if (plain == Check.BYTE) return (byte) 2000;
        if (plain == Check.FLOAT) return Float.floatToRawIntBits(2000f);
        if (plain == Check.DOUBLE) return Double.doubleToRawLongBits(2000);
        boolean row = kind >= 20 && kind <= 27 || kind >= 40;
        return row ? 8 : 2000;
    }

    private static void quotient() {
        HandleMirror x = new HandleMirror();
        x.method(0, 0, 0, 1, Check.shape(Check.LONG, Check.THING, Check.THING));
        x.object(0, 1);
        divided(x, 7, 2, 1, 3);
        divided(x, -7, 2, 1, -3);
        divided(x, 7, 0, Check.ZERO, 0);
        divided(x, Long.MIN_VALUE, -1, 1, Long.MIN_VALUE);
        x.give(Check.BASE, 0);
        x.give(Check.THING, -1);
        x.arg(Check.LONG, 0);
        direct(x, "none by 0", 0, Check.LONG, Check.NULL, 0);
        x.give(Check.BASE, 0);
        x.arg(Check.LONG, 0);
        x.give(Check.THING, -1);
        direct(x, "0 by none", 0, Check.LONG, Check.NULL, 0);
        x.give(Check.BASE, -1);
        x.arg(Check.LONG, 1);
        x.arg(Check.LONG, 0);
        direct(x, "receiver ahead of zero", 0, Check.LONG, Check.NULL, 0);
    }

    private static void divided(HandleMirror x, long n, long by, int answer, long want) {
        x.give(Check.BASE, 0);
        x.arg(Check.LONG, n);
        x.arg(Check.LONG, by);
        direct(x, n + " by " + by, 0, Check.LONG, answer, want);
    }

    private static void take() {
        HandleMirror x = new HandleMirror();
        x.method(0, 0, 1, 2, Check.shape(Check.INT, Check.CLASS_ROW, Check.THING));
        x.row(Check.CLASS_ROW + 3, 2);
        x.object(3, 42);
        x.element(1, Check.CLASS_ROW + 3);
        x.give(Check.CLASS_ROW + 3, 0);
        x.arg(Check.INT, 1);
        x.give(Check.LAST, 1);
        x.run(0, true, Check.NOTHING);
        took(x, 0, 1, 1, 42);
        took(x, 0, 0, Check.NULL, 0);
        took(x, 0, 2, Check.INDEX, 0);
        took(x, 0, -1, Check.INDEX, 0);
        took(x, 0, (1L << 32) + 1, 1, 42);
        took(x, -1, 9, Check.NULL, 0);
        x.give(Check.CLASS_ROW, 0);
        x.give(Check.THING, -1);
        direct(x, "no place", 0, Check.INT, Check.NULL, 0);
        x.method(0, 0, 1, 2, Check.shape(Check.INT, Check.ROW + Check.DOUBLE, Check.INT));
        x.row(Check.ROW + Check.DOUBLE, 1);
        x.give(Check.ROW + Check.DOUBLE, 2);
        x.arg(Check.INT, 0);
        direct(x, "plain", 1, Check.INT, 1, 0);
    }

    private static void took(HandleMirror x, int row, long place, int answer, long want) {
        x.give(Check.CLASS_ROW, row);
        x.arg(Check.LONG, place);
        direct(x, "element " + place + " of " + row, 0, Check.INT, answer, want);
    }

    private static void put() {
        HandleMirror x = new HandleMirror();
        x.method(0, 0, 1, 3, Check.shape(Check.INT, Check.ROW + Check.TRUTH, Check.INT, Check.THING));
        x.method(0, 0, 1, 3, Check.shape(Check.INT, Check.CLASS_ROW, Check.THING, Check.THING));
        x.method(0, 1, 1, 3, Check.shape(Check.INT, Check.CLASS_ROW, Check.INT, Check.INT));
        x.row(Check.ROW, 3);
        x.row(Check.CLASS_ROW + 1, 2);
        x.object(3, 1);
        x.object(2, 2);
        x.give(Check.ROW, 0);
        x.arg(Check.INT, 2);
        x.arg(Check.BYTE, -3);
        direct(x, "odd into truth", 0, Check.INT, 1, 3);
        Check.due("true", x.told(0, 2, 2), 1);
        x.give(Check.ROW, 0);
        x.arg(Check.INT, 2);
        x.give(Check.RIGHT, 3);
        direct(x, "an object's tag into truth", 0, Check.INT, 1, 3);
        Check.due("false", x.told(0, 2, 2), 0);
        x.give(Check.ROW, -1);
        x.arg(Check.INT, 2);
        x.give(Check.THING, -1);
        direct(x, "none into truth", 0, Check.INT, Check.NULL, 0);
        x.method(0, 2, 1, 3, Check.shape(Check.INT, Check.ROW, Check.FLOAT, Check.DOUBLE));
        x.give(Check.ROW, 0);
        x.arg(Check.FLOAT, Float.floatToRawIntBits(1.9f));
        x.arg(Check.DOUBLE, Double.doubleToRawLongBits(3.5));
        direct(x, "floats", 3, Check.INT, 1, 3);
        Check.due("at a place", x.told(0, 2, 1), 1);
        putThing(x, 1, 0, 2, 1);
        Check.due("put", x.told(1, 2, 0), 2);
        putThing(x, 1, 0, -1, 1);
        Check.due("put none", x.told(1, 2, 0), Check.NONE);
        putThing(x, 1, 0, 3, Check.STORE);
        putThing(x, 1, 2, 3, Check.INDEX);
        putThing(x, -1, 2, 3, Check.NULL);
        putThing(x, -1, 2, 0, Check.CAST);
        x.give(Check.CLASS_ROW, 1);
        x.give(Check.THING, -1);
        x.give(Check.THING, 0);
        direct(x, "the place ahead of cast", 1, Check.INT, Check.NULL, 0);
        x.give(Check.CLASS_ROW, 1);
        x.arg(Check.INT, 0);
        x.arg(Check.INT, 0);
        direct(x, "a plain one is no object", 2, Check.INT, Check.CAST, 0);
    }

    private static void putThing(HandleMirror x, int row, int place, int thing, int answer) {
        x.give(Check.CLASS_ROW, row);
        x.arg(Check.INT, place);
        x.give(Check.THING, thing);
        direct(x, thing + " at " + place + " of " + row, 1, Check.INT, answer, 2);
    }

    private static void raise() {
        HandleMirror x = new HandleMirror();
        x.method(0, 0, 1, 4, Check.shape(Check.LEFT, Check.THING));
        x.arg(Check.INT, 1);
        direct(x, "raised", 0, Check.LEFT, Check.RAISED, 0);
        x.give(Check.THING, -1);
        direct(x, "null ahead of raised", 0, Check.LEFT, Check.NULL, 0);
        Check.due("nothing made but a box", x.count(4), 1);
    }

    private static void pass() {
        HandleMirror x = new HandleMirror();
        x.method(0, 0, 1, 5, Check.shape(Check.LEFT, Check.THING));
        x.object(3, 6);
        x.object(2, 7);
        x.give(Check.THING, 0);
        direct(x, "passed", 0, Check.LEFT, 1, 6);
        Check.due("itself", x.keep(), 0);
        Check.due("its kind", x.result(1), Check.LAST);
        x.give(Check.THING, 1);
        direct(x, "not of the kind", 0, Check.LEFT, Check.CAST, 0);
        x.give(Check.THING, -1);
        direct(x, "none", 0, Check.LEFT, 1, 0);
        Check.due("none's kind", x.result(1), Check.NONE);
        Check.due("none cannot be kept", x.keep(), Check.STATE);
        Check.due("nothing made", x.count(4), 0);
    }

    private static void retag() {
        HandleMirror x = new HandleMirror();
        x.method(0, 0, 0, 6, Check.shape(Check.INT, Check.LONG, Check.THING));
        x.method(0, 1, 0, 6, Check.shape(Check.NOTHING));
        x.field(0, 0, Check.FINAL, Check.INT);
        x.object(1, 10);
        x.give(Check.LEFT, 0);
        x.arg(Check.LONG, 1L << 32);
        x.arg(Check.INT, 5);
        direct(x, "the tag before", 0, Check.INT, 1, 10);
        Check.due("the tag", x.told(0, 1, 0), 5);
        Check.due("the first tag", x.told(0, 3, 2), 10);
        x.give(Check.LEFT, 0);
        x.arg(Check.LONG, 1);
        x.give(Check.THING, -1);
        direct(x, "none", 0, Check.INT, Check.NULL, 0);
        Check.due("the tag stays", x.told(0, 1, 0), 5);
        x.give(Check.LEFT, 0);
        direct(x, "no parameters", 1, Check.NOTHING, 1, 0);
        Check.due("the tag is 0", x.told(0, 1, 0), 0);
    }

    private static void weight() {
        HandleMirror x = new HandleMirror();
        x.method(0, 0, 0, 7, Check.shape(Check.LONG));
        for (int c = 0; c < 5; c++) x.object(c, 50);
        x.object(1, Integer.MAX_VALUE);
        x.object(4, Integer.MAX_VALUE);
        long[] want = {50, 101, 50, 201, 1050, -1, Integer.MIN_VALUE + 999};
        for (int i = 0; i < want.length; i++) {
            x.give(Check.BASE, i);
            direct(x, "weight of " + i, 0, Check.LONG, 1, want[i]);
        }
    }

    private static void makersFail() {
        HandleMirror x = new HandleMirror();
        x.maker(2, 0, Check.shape(Check.NOTHING, Check.THING));
        x.give(Check.THING, -1);
        direct(x, "maker with none", 0, Check.RIGHT, Check.NULL, 0);
        Check.due("nothing made", x.count(4), 0);
        x.row(Check.ROW, 7);
        x.give(Check.ROW, 0);
        direct(x, "maker", 0, Check.BASE, 1, 7);
        Check.due("a right", x.result(1), Check.RIGHT);
        Check.due("made", x.count(4), 1);
    }
}
