/** Promises 8 to 11: nests, methods, fields, makers; and what their shapes have to be. */
public final class MembersTest {
    private static final long INT = Check.shape(Check.INT);

    public static void main(String[] args) {
        nest();
        method();
        methodShapes();
        field();
        maker();
        full();
        Check.end("MembersTest");
    }

    private static void nest() {
        HandleMirror x = new HandleMirror();
        Check.due("8 was", x.nest(3, 0), 3);
        Check.due("8 was then", x.nest(3, 4), 0);
        Check.due("8 class below", x.nest(-1, 0), Check.OUTSIDE);
        Check.due("8 class above", x.nest(5, 0), Check.OUTSIDE);
        Check.due("8 nest below", x.nest(3, -1), Check.OUTSIDE);
        Check.due("8 nest above", x.nest(3, 5), Check.OUTSIDE);
        Check.due("8 unchanged", x.nest(3, 3), 4);
    }

    private static void method() {
        HandleMirror x = new HandleMirror();
        Check.due("9 first", x.method(0, 0, 0, 0, INT), 0);
        Check.due("9 again", x.method(0, 0, 1, 4, INT), Check.STATE);
        Check.due("9 other shape", x.method(0, 0, 0, 0, Check.shape(Check.LONG)), 1);
        Check.due("9 other name", x.method(0, 15, 3, 0, INT), 2);
        Check.due("9 other class", x.method(4, 0, 2, 7, INT), 3);
        Check.due("9 class below", x.method(-1, 0, 0, 0, INT), Check.OUTSIDE);
        Check.due("9 class above", x.method(5, 0, 0, 0, INT), Check.OUTSIDE);
        Check.due("9 name below", x.method(0, -1, 0, 0, INT), Check.OUTSIDE);
        Check.due("9 name above", x.method(0, 16, 0, 0, INT), Check.OUTSIDE);
        Check.due("9 marks below", x.method(0, 1, -1, 0, INT), Check.OUTSIDE);
        Check.due("9 final", x.method(0, 1, 8, 0, INT), Check.OUTSIDE);
        Check.due("9 act below", x.method(0, 1, 0, -1, INT), Check.OUTSIDE);
        Check.due("9 act above", x.method(0, 1, 0, 8, INT), Check.OUTSIDE);
        Check.due("9 outside ahead of state", x.method(0, 0, 16, 0, INT), Check.OUTSIDE);
        Check.due("9 a field is no method", x.field(0, 1, 0, Check.INT), 4);
        Check.due("9 of a field's name", x.method(0, 1, 0, 0, INT), 5);
    }

    private static void methodShapes() {
        HandleMirror x = new HandleMirror();
        long[] wrong = {0, -1, 19 + 1, 255, 28 + 1, 35 + 1, 45 + 1, 5 | 9 << 8, 5 | 20 << 8, 5 | 5 << 16,
            5 | 5L << 56, Check.shape(Check.INT, 4, 4, 4, 4, 4), Check.shape(Check.INT, 4, 4, 8), Long.MIN_VALUE | 5};
        for (long shape : wrong) Check.due("9 shape " + shape, x.method(0, 0, 0, 0, shape), Check.OUTSIDE);
        outside(x, 0, 1, Check.shape(4, 4));
        outside(x, 0, 2, Check.shape(4, 24));
        outside(x, 0, 2, Check.shape(4, 9, 4));
        outside(x, 0, 3, Check.shape(4, 24, 4));
        outside(x, 0, 3, Check.shape(4, 34, 4, 4));
        outside(x, 0, 5, Check.shape(9));
        outside(x, 0, 5, Check.shape(9, 4));
        outside(x, 0, 5, Check.shape(4, 9));
        outside(x, 0, 5, Check.shape(8, 9));
        outside(x, 1, 6, INT);
        outside(x, 1, 7, INT);
        outside(x, 4, 0, INT);
        outside(x, 4, 0, Check.shape(4, 24, 4));
        outside(x, 4, 0, Check.shape(4, 9));
        int next = 0;
        Check.due("9 act 1", x.method(0, 0, 1, 1, Check.shape(4, 4, 9)), next++);
        Check.due("9 act 2", x.method(0, 0, 1, 2, Check.shape(4, 44, 9)), next++);
        Check.due("9 act 3", x.method(0, 0, 1, 3, Check.shape(4, 20, 4, 9)), next++);
        Check.due("9 act 4", x.method(0, 0, 1, 4, Check.shape(8)), next++);
        Check.due("9 act 5", x.method(0, 0, 1, 5, Check.shape(18, 44)), next++);
        Check.due("9 act 6", x.method(0, 0, 2, 6, Check.shape(8, 9)), next++);
        Check.due("9 act 7", x.method(0, 0, 2, 7, Check.shape(9)), next++);
        Check.due("9 varied", x.method(0, 0, 7, 0, Check.shape(4, 4, 24)), next++);
        Check.due("9 four parameters", x.method(0, 0, 0, 0, Check.shape(44, 9, 18, 17, 27)), next++);
        Check.due("9 how many", x.count(1), next);
    }

    private static void outside(HandleMirror x, int marks, int act, long shape) {
        Check.due("9 act " + act + " of " + shape, x.method(0, 9, marks, act, shape), Check.OUTSIDE);
    }

    private static void field() {
        HandleMirror x = new HandleMirror();
        Check.due("10 first", x.field(0, 0, 11, Check.INT), 0);
        Check.due("10 again", x.field(0, 0, 0, Check.INT), Check.STATE);
        Check.due("10 other kind", x.field(0, 0, 0, Check.LONG), 1);
        Check.due("10 other class", x.field(1, 0, 0, Check.INT), 2);
        Check.due("10 class below", x.field(-1, 0, 0, 4), Check.OUTSIDE);
        Check.due("10 class above", x.field(5, 0, 0, 4), Check.OUTSIDE);
        Check.due("10 name below", x.field(0, -1, 0, 4), Check.OUTSIDE);
        Check.due("10 name above", x.field(0, 16, 0, 4), Check.OUTSIDE);
        Check.due("10 varied", x.field(0, 1, 4, 4), Check.OUTSIDE);
        Check.due("10 marks above", x.field(0, 1, 16, 4), Check.OUTSIDE);
        Check.due("10 marks below", x.field(0, 1, -1, 4), Check.OUTSIDE);
        int[] none = {-1, Check.NOTHING, 19, 28, 29, 35, 39, 45};
        for (int kind : none) Check.due("10 kind " + kind, x.field(0, 1, 0, kind), Check.OUTSIDE);
        for (int i = 3; i < 8; i++) Check.due("10 more", x.field(0, i, 0, 44), i);
        Check.due("10 eight", x.field(0, 8, 0, 4), Check.FULL);
        Check.due("10 state ahead of full", x.field(1, 0, 0, 4), Check.STATE);
        Check.due("10 a method still", x.method(0, 0, 0, 0, INT), 8);
    }

    private static void maker() {
        HandleMirror x = new HandleMirror();
        long none = Check.shape(Check.NOTHING);
        Check.due("11 first", x.maker(0, 0, none), 0);
        Check.due("11 again", x.maker(0, 2, none), Check.STATE);
        Check.due("11 other class", x.maker(1, 2, none), 1);
        Check.due("11 varied", x.maker(0, 6, Check.shape(8, 4, 44)), 2);
        Check.due("11 varied without a row", x.maker(0, 4, Check.shape(8, 4, 9)), Check.OUTSIDE);
        Check.due("11 varied without parameters", x.maker(2, 4, none), Check.OUTSIDE);
        Check.due("11 result", x.maker(2, 0, Check.shape(32)), Check.OUTSIDE);
        Check.due("11 static", x.maker(2, 1, none), Check.OUTSIDE);
        Check.due("11 final", x.maker(2, 8, none), Check.OUTSIDE);
        Check.due("11 marks below", x.maker(2, -2, none), Check.OUTSIDE);
        Check.due("11 class below", x.maker(-1, 0, none), Check.OUTSIDE);
        Check.due("11 class above", x.maker(5, 0, none), Check.OUTSIDE);
        Check.due("11 four", x.maker(2, 0, Check.shape(8, 4, 4, 4, 4)), 3);
        Check.due("11 five", x.maker(2, 0, Check.shape(8, 4, 4, 4, 4, 4)), Check.OUTSIDE);
        Check.due("11 no shape", x.maker(2, 0, 0), Check.OUTSIDE);
    }

    private static void full() {
        HandleMirror x = new HandleMirror();
        for (int i = 0; i < 24; i++) Check.due("9 more", x.method(i % 5, i / 5, 0, 0, INT), i);
        Check.due("9 full", x.method(4, 15, 0, 0, INT), Check.FULL);
        Check.due("10 full", x.field(4, 15, 0, 4), Check.FULL);
        Check.due("11 full", x.maker(4, 0, Check.shape(8)), Check.FULL);
        Check.due("9 state ahead of full", x.method(0, 0, 0, 0, INT), Check.STATE);
        Check.due("36 members", x.count(1), 24);
    }
}
