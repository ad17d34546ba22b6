/** Promises 1 to 7: a new object, things and args. */
public final class ThingsTest {
    public static void main(String[] args) {
        newObject();
        object();
        row();
        arg();
        give();
        forget();
        toldThings();
        toldFields();
        Check.end("ThingsTest");
    }

    private static void newObject() {
        HandleMirror x = new HandleMirror();
        for (int what = 0; what <= 4; what++) Check.due("1 count " + what, x.count(what), 0);
        for (int what = 11; what <= 20; what++) Check.due("1 count " + what, x.count(what), 0);
        for (int what = 0; what <= 3; what++) Check.due("1 last " + what, x.last(what), 0);
        for (int c = 0; c < 5; c++) Check.due("1 nest " + c, x.nest(c, 0), c);
        Check.due("1 result", x.result(0), Check.STATE);
        Check.due("1 keep", x.keep(), Check.STATE);
        Check.due("1 told", x.told(0, 0, 0), Check.UNKNOWN);
    }

    private static void object() {
        HandleMirror x = new HandleMirror();
        Check.due("2 class -1", x.object(-1, 0), Check.OUTSIDE);
        Check.due("2 class 5", x.object(5, 0), Check.OUTSIDE);
        for (int i = 0; i < 60; i++) Check.due("2 object", x.object(i % 5, 7 - i), i);
        Check.due("2 full", x.object(0, 0), Check.FULL);
        Check.due("2 outside ahead of full", x.object(5, 0), Check.OUTSIDE);
        Check.due("2 kind", x.told(13, 0, 0), Check.LAST);
        Check.due("2 tag", x.told(13, 1, 0), -6);
        Check.due("2 not counted as made", x.count(4), 0);
        x = new HandleMirror();
        x.object(4, Integer.MIN_VALUE);
        Check.due("2 lowest tag", x.told(0, 1, 0), Integer.MIN_VALUE);
    }

    private static void row() {
        HandleMirror x = new HandleMirror();
        int rows = 0;
        for (int kind = -2; kind < 60; kind++) {
            boolean row = kind >= 20 && kind <= 27 || kind >= 40 && kind <= 44;
            Check.due("3 kind " + kind, x.row(kind, 3), row ? rows++ : Check.OUTSIDE);
        }
        Check.due("3 nine", x.row(24, 9), Check.OUTSIDE);
        Check.due("3 eight", x.row(24, 8), rows++);
        Check.due("3 none", x.row(44, 0), rows++);
        Check.due("3 below", x.row(24, -1), Check.SIZE);
        Check.due("3 kind ahead of size", x.row(30, -1), Check.OUTSIDE);
        Check.due("3 length", x.told(rows - 2, 1, 0), 8);
        Check.due("3 first elements", x.told(rows - 2, 2, 7), 0);
        Check.due("3 first elements of a class", x.told(rows - 3, 2, 2), Check.NONE);
        for (int i = rows; i < 60; i++) x.row(20, 0);
        Check.due("3 full", x.row(20, 0), Check.FULL);
        Check.due("3 full ahead of size", x.row(20, -1), Check.FULL);
        Check.due("3 outside ahead of full", x.row(20, 9), Check.OUTSIDE);
    }

    private static void arg() {
        for (int kind = -2; kind < 60; kind++) {
            boolean plain = kind >= 0 && kind <= 7 || kind >= 10 && kind <= 17;
            Check.due("4 kind " + kind, new HandleMirror().arg(kind, 1), plain ? 1 : Check.OUTSIDE);
        }
        long bits = 0x123456789abcdef1L;
        argBits(0, bits, 1);
        argBits(0, -2, 0);
        argBits(0, -1, 1);
        argBits(1, bits, (byte) bits);
        argBits(2, bits, (short) bits);
        argBits(3, -1, 65535);
        argBits(4, bits, (int) bits);
        argBits(5, bits, bits);
        argBits(6, bits, (int) bits);
        argBits(7, bits, bits);
        argBits(6, Float.floatToRawIntBits(Float.NEGATIVE_INFINITY), 0xff800000);
        HandleMirror x = new HandleMirror();
        int[] kinds = {6, 16};
        for (int kind : kinds) {
            Check.due("4 no float", x.arg(kind, 0x7f800001L), Check.OUTSIDE);
            Check.due("4 no float below 0", x.arg(kind, 0xff800001L), Check.OUTSIDE);
            Check.due("4 no double", x.arg(kind + 1, 0x7ff0000000000001L), Check.OUTSIDE);
            Check.due("4 no double below 0", x.arg(kind + 1, -1L), Check.OUTSIDE);
        }
        Check.due("4 a double that were no float", x.arg(7, 0x7f800001L), 1);
        Check.due("4 infinity", x.arg(7, 0x7ff0000000000000L), 2);
        for (int i = 3; i <= 6; i++) Check.due("4 more", x.arg(14, i), i);
        Check.due("4 full", x.arg(4, 0), Check.FULL);
        Check.due("4 outside ahead of full", x.arg(6, 0x7fc00000L), Check.OUTSIDE);
        Check.due("4 a box of arg() is not made", x.count(4), 0);
    }

    private static void argBits(int plain, long bits, long want) {
        for (int kind = plain; kind <= plain + 10; kind += 10) {
            HandleMirror x = new HandleMirror();
            x.arg(kind, bits);
            x.constant();
            x.run(0, true, kind);
            Check.due("4 value of kind " + kind, x.result(1), kind);
            Check.due("4 bits of kind " + kind, x.result(2), want);
        }
    }

    private static void give() {
        HandleMirror x = new HandleMirror();
        x.object(3, 1);
        x.row(43, 1);
        x.row(24, 1);
        for (int kind : Check.KINDS) {
            x.forget();
            boolean reference = kind >= 9;
            Check.due("5 none as " + kind, x.give(kind, -1), reference ? 1 : Check.OUTSIDE);
            x.forget();
            boolean is = kind == 9 || kind == 30 || kind == 31 || kind == 33;
            Check.due("5 a last as " + kind, x.give(kind, 0), is ? 1 : reference ? Check.CAST : Check.OUTSIDE);
            x.forget();
            is = kind == 9 || kind == 40 || kind == 41 || kind == 43;
            Check.due("5 a row of last as " + kind, x.give(kind, 1), is ? 1 : reference ? Check.CAST : Check.OUTSIDE);
            x.forget();
            is = kind == 9 || kind == 24;
            Check.due("5 a row of int as " + kind, x.give(kind, 2), is ? 1 : reference ? Check.CAST : Check.OUTSIDE);
        }
        int[] others = {-1, 19, 28, 29, 35, 39, 45, Integer.MAX_VALUE};
        for (int kind : others) Check.due("5 kind " + kind, x.give(kind, 0), Check.OUTSIDE);
        Check.due("5 unknown", x.give(4, 3), Check.UNKNOWN);
        Check.due("5 unknown below", x.give(9, -2), Check.UNKNOWN);
        x.forget();
        for (int i = 1; i <= 6; i++) x.give(9, 0);
        Check.due("5 full ahead of cast", x.give(32, 0), Check.FULL);
        Check.due("5 outside ahead of full", x.give(8, 0), Check.OUTSIDE);
        boxesAsKinds();
    }

    private static void boxesAsKinds() {
        for (int plain = 0; plain < 8; plain++) {
            HandleMirror x = new HandleMirror();
            x.arg(10 + plain, 1);
            x.constant();
            x.run(0, true, 10 + plain);
            x.keep();
            for (int kind = 9; kind < 19; kind++) {
                x.forget();
                boolean number = kind == 18 && plain != 0 && plain != 3;
                boolean is = kind == 9 || kind == 10 + plain || number;
                Check.due("5 box " + plain + " as " + kind, x.give(kind, 0), is ? 1 : Check.CAST);
            }
        }
    }

    private static void forget() {
        HandleMirror x = new HandleMirror();
        Check.due("6 none", x.forget(), 0);
        x.arg(4, 1);
        x.give(9, -1);
        Check.due("6 two", x.forget(), 2);
        Check.due("6 gone", x.count(3), 0);
    }

    private static void toldThings() {
        HandleMirror x = new HandleMirror();
        x.row(43, 2);
        x.object(3, -5);
        x.row(21, 2);
        x.element(1, 40);
        x.give(40, 0);
        x.arg(4, 1);
        x.give(30, 1);
        x.run(0, true, 8);
        Check.due("7 row's kind", x.told(0, 0, 9), 43);
        Check.due("7 row's length", x.told(0, 1, 9), 2);
        Check.due("7 none in a row", x.told(0, 2, 0), Check.NONE);
        Check.due("7 thing in a row", x.told(0, 2, 1), 1);
        Check.due("7 place below", x.told(0, 2, -1), 0);
        Check.due("7 place above", x.told(0, 2, 2), 0);
        Check.due("7 object's tag", x.told(1, 1, 0), -5);
        Check.due("7 object has no elements", x.told(1, 2, 0), 0);
        Check.due("7 row has no fields", x.told(0, 3, 0), 0);
        Check.due("7 plain element", x.told(2, 2, 0), 0);
        Check.due("7 what", x.told(0, 4, 0), Check.OUTSIDE);
        Check.due("7 what below", x.told(0, -1, 0), Check.OUTSIDE);
        Check.due("7 without a thing", x.told(-1, 0, 0), Check.OUTSIDE);
        Check.due("7 without a thing", x.told(-1, 2, 0), Check.OUTSIDE);
        Check.due("7 without a thing", x.told(-1, 4, 0), Check.OUTSIDE);
        Check.due("7 unknown", x.told(3, 0, 0), Check.UNKNOWN);
        Check.due("7 unknown ahead of outside", x.told(-2, 9, 0), Check.UNKNOWN);
        Check.due("7 no static there", x.told(-1, 3, 0), 0);
        unnumberedElement(x);
    }

    private static void unnumberedElement(HandleMirror x) {
        x.maker(3, 0, Check.shape(Check.NOTHING));
        x.find(3, 3, 0, Check.shape(Check.NOTHING), 3);
        x.collect(x.same(43), 43, 1);
        int collected = x.count(2) - 1;
        x.fold(collected, 1);
        Check.due("7 a row of a new object", x.run(collected + 1, true, 43), 1);
        Check.due("7 kept", x.keep(), 3);
        Check.due("7 element without a number", x.told(3, 2, 0), -2);
    }

    private static void toldFields() {
        HandleMirror x = new HandleMirror();
        x.object(1, 1000);
        x.object(3, 7);
        x.field(1, 0, 0, Check.BYTE);
        x.field(1, 0, Check.FINAL, Check.CHAR);
        x.field(1, 0, Check.FINAL, Check.THING);
        x.field(1, 1, Check.STATIC | Check.FINAL, Check.DOUBLE);
        x.field(1, 1, Check.STATIC, Check.BASE);
        x.field(1, 2, 0, Check.THING);
        x.field(3, 0, Check.FINAL | Check.PRIVATE, Check.TRUTH);
        x.method(1, 0, 0, 0, Check.shape(Check.INT));
        Check.due("7 field at first", x.told(0, 3, 0), 0);
        Check.due("7 final field", x.told(0, 3, 1), 1000);
        Check.due("7 final reference", x.told(0, 3, 2), Check.NONE);
        Check.due("7 static of an object", x.told(0, 3, 3), 0);
        Check.due("7 static final", x.told(-1, 3, 3), Double.doubleToRawLongBits(3));
        Check.due("7 static reference", x.told(-1, 3, 4), Check.NONE);
        Check.due("7 reference at first", x.told(0, 3, 5), Check.NONE);
        Check.due("7 field of a class below", x.told(0, 3, 6), 0);
        Check.due("7 field of its own class", x.told(1, 3, 6), 1);
        Check.due("7 field of a class above", x.told(1, 3, 1), 7);
        Check.due("7 a method is no field", x.told(1, 3, 7), 0);
        Check.due("7 no member", x.told(1, 3, 8), 0);
        Check.due("7 no member below", x.told(1, 3, -1), 0);
        Check.due("7 no static", x.told(-1, 3, 0), 0);
        int set = x.find(5, 1, 2, Check.shape(Check.THING), 1);
        x.give(Check.LEFT, 0);
        x.give(Check.THING, 1);
        Check.due("7 set", x.run(set, true, Check.NOTHING), 1);
        Check.due("7 field is a thing", x.told(0, 3, 5), 1);
        x.give(Check.LEFT, 0);
        x.arg(Check.BOX + Check.INT, 5);
        Check.due("7 set to a box", x.run(set, false, Check.NOTHING), 1);
        Check.due("7 field without a number", x.told(0, 3, 5), -2);
    }
}
