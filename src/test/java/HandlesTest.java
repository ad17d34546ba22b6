/** Promises 13 to 30: what is made of handles. */
public final class HandlesTest {
    private static final int I = Check.INT, L = Check.LONG, T = Check.THING, N = Check.NOTHING;
    private static final int INTS = Check.ROW + Check.INT;

    public static void main(String[] args) {
        as();
        asVaried();
        bind();
        bindRefused();
        drop();
        permute();
        filter();
        fold();
        after();
        guard();
        caught();
        spread();
        collect();
        varied();
        element();
        constant();
        same();
        site();
        shape();
        full();
        Check.end("HandlesTest");
    }

    /** A static method of class 0 that sums; members are numbered as they come. */
    private static int summing(HandleMirror x, long shape) {
        int name = x.count(1) % 16;
        x.method(0, name, Check.STATIC, 0, shape);
        return x.find(1, 0, name, shape, 0);
    }

    private static int acting(HandleMirror x, int act, long shape) {
        int name = x.count(1) % 16;
        x.method(0, name, Check.STATIC, act, shape);
        return x.find(1, 0, name, shape, 0);
    }

    private static void ints(HandleMirror x, int... values) {
        for (int value : values) x.arg(I, value);
    }

    private static void runs(HandleMirror x, String what, int h, int kind, long want, int steps) {
        Check.due(what + ": run", x.run(h, true, kind), 1);
        if (kind != N) Check.due(what + ": result", x.result(2), want);
        Check.due(what + ": steps", x.last(0), steps);
    }

    private static void fails(HandleMirror x, String what, int h, int kind, int failure, int steps) {
        Check.due(what, x.run(h, true, kind), failure);
        Check.due(what + ": steps", x.last(0), steps);
    }

    private static void as() {
        HandleMirror x = new HandleMirror();
        int h = summing(x, Check.shape(L, L, T));
        Check.due("13 itself", x.as(h, Check.shape(L, L, T)), h);
        int adapted = x.as(h, Check.shape(T, I, I));
        Check.due("13 new", adapted, h + 1);
        Check.due("13 shape", x.shape(adapted), Check.shape(T, I, I));
        ints(x, 2, 3);
        runs(x, "13 turned", adapted, T, 5, 2);
        Check.due("13 boxes made", x.count(4), 2);
        Check.due("13 brought a box", x.result(1), Check.BOX + L);
        int again = x.as(adapted, Check.shape(N, Check.BOX + I, Check.NUMBER));
        x.arg(Check.BOX + I, 1);
        x.give(Check.NUMBER, -1);
        fails(x, "13 null", again, N, Check.NULL, 1);
        x.arg(Check.BOX + I, 1);
        x.keep();
        x.give(Check.NUMBER, 0);
        fails(x, "13 a box of long is no int", again, N, Check.CAST, 1);
        Check.due("13 fewer", x.as(h, Check.shape(L, L)), Check.WRONG_TYPE);
        Check.due("13 more", x.as(h, Check.shape(L, L, T, T)), Check.WRONG_TYPE);
        Check.due("13 parameter", x.as(h, Check.shape(L, Check.FLOAT, T)), Check.WRONG_TYPE);
        Check.due("13 result", x.as(h, Check.shape(I, L, T)), Check.WRONG_TYPE);
        Check.due("13 shape", x.as(h, 0), Check.OUTSIDE);
        Check.due("13 unknown", x.as(99, 0), Check.UNKNOWN);
        Check.due("13 unknown below", x.as(-1, 0), Check.UNKNOWN);
        int nothing = summing(x, Check.shape(N));
        runs(x, "13 nothing as int", x.as(nothing, Check.shape(I)), I, 0, 2);
        runs(x, "13 nothing as thing", x.as(nothing, Check.shape(T)), T, 0, 2);
        Check.due("13 none", x.result(1), Check.NONE);
    }

    private static void asVaried() {
        HandleMirror x = new HandleMirror();
        long own = Check.shape(L, L, INTS);
        x.method(0, 0, Check.STATIC | Check.VARIED, 0, own);
        int h = x.find(1, 0, 0, own, 0);
        int same = x.as(h, own);
        Check.due("13 varied is not itself", same, h + 1);
        x.row(INTS, 3);
        x.arg(L, 10);
        x.give(INTS, 0);
        runs(x, "13 varied as it is", same, L, 13, 2);
        Check.due("13 nothing collected", x.count(4), 0);
        x.arg(L, 10);
        x.give(INTS, 0);
        runs(x, "13 varied exactly", h, L, 13, 1);
        int none = x.as(h, Check.shape(L, L));
        x.arg(L, 10);
        runs(x, "13 collected none", none, L, 10, 3);
        Check.due("13 a row was made", x.count(4), 1);
        int one = x.as(h, Check.shape(L, L, I));
        x.arg(L, 10);
        ints(x, 5);
        runs(x, "13 collected one", one, L, 11, 3);
        int five = x.as(h, Check.shape(L, Check.BYTE, I, Check.SHORT, Check.BOX + I, T, I));
        Check.due("13 collected five", five, one + 1);
        Check.due("13 too few", x.as(h, Check.shape(L)), Check.WRONG_TYPE);
        Check.due("13 not so", x.as(h, Check.shape(L, L, L)), Check.WRONG_TYPE);
        Check.due("13 not so among more", x.as(h, Check.shape(L, L, I, INTS)), Check.WRONG_TYPE);
        int thing = x.as(h, Check.shape(L, L, T));
        x.arg(L, 1);
        x.give(T, 0);
        runs(x, "13 a reference is the row", thing, L, 4, 2);
        x.object(0, 0);
        x.arg(L, 1);
        x.give(T, 1);
        fails(x, "13 or is cast", thing, L, Check.CAST, 1);
        Check.due("13 an adapted one is not varied", x.as(none, Check.shape(L, L, I)), Check.WRONG_TYPE);
    }

    private static void bind() {
        HandleMirror x = new HandleMirror();
        int h = acting(x, 1, Check.shape(L, L, T));
        Check.due("14 unknown", x.bind(h + 1, 0), Check.UNKNOWN);
        Check.due("14 at below", x.bind(h, -1), Check.OUTSIDE);
        Check.due("14 at above", x.bind(h, 2), Check.OUTSIDE);
        Check.due("14 no args", x.bind(h, 1), Check.STATE);
        x.arg(L, 99);
        ints(x, 2);
        int second = x.bind(h, 1);
        Check.due("14 bound", second, h + 1);
        Check.due("14 the latest went", x.count(3), 1);
        Check.due("14 a box was made", x.count(4), 1);
        Check.due("14 shape", x.shape(second), Check.shape(L, L));
        int both = x.bind(second, 0);
        Check.due("14 shape of all bound", x.shape(both), Check.shape(L));
        runs(x, "14 worked", both, L, 49, 3);
        Check.due("14 no more boxes", x.count(4), 1);
        x.arg(L, 7);
        int first = x.bind(h, 0);
        x.arg(Check.BOX + L, 2);
        x.keep();
        x.forget();
        x.arg(Check.BOX + I, 3);
        Check.due("14 as thing", x.run(x.as(first, Check.shape(L, Check.BOX + I)), true, L), 1);
        Check.due("14 the first", x.result(2), 2);
        x.arg(Check.BOX + L, 12);
        int unboxed = x.bind(h, 0);
        Check.due("14 a box of it", x.shape(unboxed), Check.shape(L, T));
        x.row(INTS, 5);
        x.give(T, 0);
        runs(x, "14 out of a box", unboxed, L, 2, 2);
        ints(x, 1, 2, 3, 4, 5);
        x.arg(L, 20);
        Check.due("14 of six", x.shape(x.bind(h, 0)), Check.shape(L, T));
        Check.due("14 five are left", x.forget(), 5);
        x.give(T, -1);
        Check.due("14 none to a reference", x.shape(x.bind(h, 1)), Check.shape(L, L));
    }

    private static void bindRefused() {
        HandleMirror x = new HandleMirror();
        int h = summing(x, Check.shape(L, L, Check.NUMBER, Check.LEFT));
        x.object(2, 1);
        x.give(T, -1);
        Check.due("14 null", x.bind(h, 0), Check.NULL);
        x.forget();
        x.give(T, 0);
        Check.due("14 no box", x.bind(h, 0), Check.CAST);
        Check.due("14 not of the class", x.bind(h, 2), Check.CAST);
        x.forget();
        ints(x, 1);
        Check.due("14 not widened", x.bind(h, 0), Check.CAST);
        Check.due("14 a box is no left", x.bind(h, 2), Check.CAST);
        x.forget();
        x.arg(Check.BOX + I, 1);
        Check.due("14 another box", x.bind(h, 0), Check.CAST);
        x.forget();
        x.arg(Check.CHAR, 1);
        Check.due("14 a char is no number", x.bind(h, 1), Check.CAST);
        Check.due("14 the arg is there still", x.count(3), 1);
        Check.due("14 nothing made", x.count(4), 0);
        Check.due("14 no failures of runs", x.count(12), 0);
    }

    private static void drop() {
        HandleMirror x = new HandleMirror();
        int h = acting(x, 1, Check.shape(I, I, I));
        for (int at = 0; at <= 2; at++) {
            int dropping = x.drop(h, at, T);
            Check.due("15 shape " + at, Check.shape(I, at == 0 ? T : I, at == 1 ? T : I, at == 2 ? T : I), x.shape(dropping));
            for (int i = 0; i < 3; i++) {
                if (i == at) x.give(T, -1);
                else ints(x, i == 0 || i == 1 && at == 0 ? 42 : 6);
            }
            runs(x, "15 worked " + at, dropping, I, 7, 2);
        }
        Check.due("15 unknown", x.drop(99, 0, I), Check.UNKNOWN);
        Check.due("15 at below", x.drop(h, -1, I), Check.OUTSIDE);
        Check.due("15 at above", x.drop(h, 3, I), Check.OUTSIDE);
        Check.due("15 nothing", x.drop(h, 0, N), Check.OUTSIDE);
        Check.due("15 no kind", x.drop(h, 0, 19), Check.OUTSIDE);
        int more = h;
        for (int i = 2; i < 6; i++) more = x.drop(more, i, L);
        Check.due("15 six", x.shape(more), Check.shape(I, I, I, L, L, L, L));
        Check.due("15 seven", x.drop(more, 0, L), Check.OUTSIDE);
    }

    private static void permute() {
        HandleMirror x = new HandleMirror();
        int h = acting(x, 1, Check.shape(I, I, L));
        int turned = x.permute(h, 20, Check.shape(I, L, T, I));
        Check.due("16 kinds", turned, Check.WRONG_TYPE);
        turned = x.permute(h, 2, Check.shape(I, L, T, I));
        Check.due("16 shape", x.shape(turned), Check.shape(I, L, T, I));
        x.arg(L, 5);
        x.give(T, -1);
        ints(x, 35);
        runs(x, "16 worked", turned, I, 7, 2);
        int twice = x.permute(acting(x, 1, Check.shape(I, I, I)), 0, Check.shape(I, I));
        ints(x, 9);
        runs(x, "16 one for both", twice, I, 1, 2);
        Check.due("16 unknown", x.permute(-1, 0, 0), Check.UNKNOWN);
        Check.due("16 shape", x.permute(h, 0, 0), Check.OUTSIDE);
        Check.due("16 below", x.permute(h, -1, Check.shape(I, I, L)), Check.OUTSIDE);
        Check.due("16 digit", x.permute(h, 30, Check.shape(I, I, L)), Check.OUTSIDE);
        Check.due("16 digit of none", x.permute(h, 0, Check.shape(I)), Check.OUTSIDE);
        Check.due("16 further digit", x.permute(h, 110, Check.shape(I, I, L)), Check.OUTSIDE);
        Check.due("16 outside ahead of type", x.permute(h, 120, Check.shape(L, L, L)), Check.OUTSIDE);
        Check.due("16 result", x.permute(h, 10, Check.shape(L, I, L)), Check.WRONG_TYPE);
        int none = summing(x, Check.shape(I));
        Check.due("16 none", x.shape(x.permute(none, 0, Check.shape(I, I, I))), Check.shape(I, I, I));
        Check.due("16 order of none", x.permute(none, 1, Check.shape(I, I, I)), Check.OUTSIDE);
        int six = x.permute(twice, 5, Check.shape(I, T, T, T, T, T, I));
        for (int i = 0; i < 5; i++) x.give(T, -1);
        ints(x, 3);
        runs(x, "16 out of six", six, I, 1, 3);
    }

    private static void filter() {
        HandleMirror x = new HandleMirror();
        int h = acting(x, 1, Check.shape(I, I, I));
        int g = summing(x, Check.shape(I, L));
        int filtering = x.filter(h, 1, g);
        Check.due("17 shape", x.shape(filtering), Check.shape(I, I, L));
        ints(x, 5005);
        x.arg(L, 1);
        runs(x, "17 worked", filtering, I, 5, 3);
        ints(x, 5);
        x.arg(L, -1000);
        fails(x, "17 fails in h", filtering, I, Check.ZERO, 3);
        Check.due("17 unknown h", x.filter(99, 0, g), Check.UNKNOWN);
        Check.due("17 unknown g", x.filter(h, 0, 99), Check.UNKNOWN);
        Check.due("17 at below", x.filter(h, -1, g), Check.OUTSIDE);
        Check.due("17 at above", x.filter(h, 2, g), Check.OUTSIDE);
        Check.due("17 two parameters", x.filter(h, 0, h), Check.WRONG_TYPE);
        Check.due("17 no parameters", x.filter(h, 0, summing(x, Check.shape(I))), Check.WRONG_TYPE);
        Check.due("17 result", x.filter(h, 0, summing(x, Check.shape(L, I))), Check.WRONG_TYPE);
        Check.due("17 outside ahead of type", x.filter(h, 2, h), Check.OUTSIDE);
    }

    private static void fold() {
        HandleMirror x = new HandleMirror();
        int h = acting(x, 1, Check.shape(I, L, I, T));
        int g = summing(x, Check.shape(L, I));
        int folding = x.fold(h, g);
        Check.due("18 shape", x.shape(folding), Check.shape(I, I, T));
        ints(x, 5);
        x.give(T, -1);
        runs(x, "18 worked", folding, I, 1005 / 5, 3);
        int effect = summing(x, Check.shape(N, L));
        int nothing = x.fold(h, effect);
        Check.due("18 nothing: shape", x.shape(nothing), Check.shape(I, L, I, T));
        x.arg(L, 12);
        ints(x, 5);
        x.give(T, -1);
        runs(x, "18 nothing: worked", nothing, I, 2, 3);
        int bare = summing(x, Check.shape(L));
        Check.due("18 without parameters", x.shape(x.fold(h, bare)), Check.shape(I, I, T));
        Check.due("18 unknown h", x.fold(99, g), Check.UNKNOWN);
        Check.due("18 unknown g", x.fold(h, -1), Check.UNKNOWN);
        Check.due("18 result", x.fold(h, summing(x, Check.shape(I, I))), Check.WRONG_TYPE);
        Check.due("18 parameters", x.fold(h, summing(x, Check.shape(L, T))), Check.WRONG_TYPE);
        Check.due("18 more parameters", x.fold(h, summing(x, Check.shape(L, I, T, I))), Check.WRONG_TYPE);
        Check.due("18 nothing: parameters", x.fold(h, summing(x, Check.shape(N, I))), Check.WRONG_TYPE);
        Check.due("18 h has none", x.fold(bare, g), Check.WRONG_TYPE);
        int order = x.fold(h, acting(x, 4, Check.shape(N)));
        x.arg(L, 1);
        ints(x, 0);
        x.give(T, -1);
        fails(x, "18 g first", order, I, Check.RAISED, 2);
    }

    private static void after() {
        HandleMirror x = new HandleMirror();
        int h = summing(x, Check.shape(I, L, L));
        int g = summing(x, Check.shape(T, I));
        int following = x.after(h, g);
        Check.due("19 shape", x.shape(following), Check.shape(T, L, L));
        x.arg(L, 1);
        x.arg(L, 2);
        runs(x, "19 worked", following, T, 1003, 3);
        int nothing = summing(x, Check.shape(N, L));
        int bare = summing(x, Check.shape(I));
        following = x.after(nothing, bare);
        Check.due("19 nothing: shape", x.shape(following), Check.shape(I, L));
        x.arg(L, 1);
        runs(x, "19 nothing: worked", following, I, 3000, 3);
        Check.due("19 unknown h", x.after(99, g), Check.UNKNOWN);
        Check.due("19 unknown g", x.after(h, 99), Check.UNKNOWN);
        Check.due("19 another kind", x.after(g, g), Check.WRONG_TYPE);
        Check.due("19 two parameters", x.after(h, acting(x, 1, Check.shape(I, I, I))), Check.WRONG_TYPE);
        Check.due("19 no parameters", x.after(h, bare), Check.WRONG_TYPE);
        Check.due("19 nothing, one parameter", x.after(nothing, g), Check.WRONG_TYPE);
    }

    private static void guard() {
        HandleMirror x = new HandleMirror();
        int test = summing(x, Check.shape(Check.TRUTH, I));
        int h = summing(x, Check.shape(I, I, I));
        int g = acting(x, 1, Check.shape(I, I, I));
        int guarding = x.guard(test, h, g);
        Check.due("20 shape", x.shape(guarding), Check.shape(I, I, I));
        ints(x, 7, 2);
        runs(x, "20 true", guarding, I, 1009, 3);
        ints(x, 8, 2);
        runs(x, "20 false", guarding, I, 4, 3);
        int bare = summing(x, Check.shape(Check.TRUTH));
        ints(x, 8, 2);
        runs(x, "20 test without parameters", x.guard(bare, h, g), I, 4, 3);
        Check.due("20 unknown test", x.guard(99, h, g), Check.UNKNOWN);
        Check.due("20 unknown h", x.guard(test, 99, g), Check.UNKNOWN);
        Check.due("20 unknown g", x.guard(test, h, 99), Check.UNKNOWN);
        Check.due("20 no truth", x.guard(h, h, g), Check.WRONG_TYPE);
        Check.due("20 other parameters", x.guard(summing(x, Check.shape(Check.TRUTH, L)), h, g), Check.WRONG_TYPE);
        Check.due("20 more parameters", x.guard(summing(x, Check.shape(Check.TRUTH, I, I, I)), h, g), Check.WRONG_TYPE);
        Check.due("20 two shapes", x.guard(test, h, summing(x, Check.shape(L, I, I))), Check.WRONG_TYPE);
    }

    private static void caught() {
        HandleMirror x = new HandleMirror();
        int h = acting(x, 1, Check.shape(I, I, T));
        int g = summing(x, Check.shape(I, I, I));
        int any = x.caught(h, 0, g);
        Check.due("21 shape", x.shape(any), Check.shape(I, I, T));
        ints(x, 50);
        x.give(T, -1);
        runs(x, "21 null is caught", any, I, 1051, 3);
        Check.due("21 failures", x.last(1), 1);
        Check.due("21 caught", x.last(2), 1);
        Check.due("21 ended well", x.last(3), 0);
        int zero = x.caught(h, 6, g);
        x.arg(I, 50);
        x.give(T, -1);
        fails(x, "21 null is not zero", zero, I, Check.NULL, 2);
        Check.due("21 not caught", x.last(2), 0);
        Check.due("21 what ended it", x.last(3), 1);
        x.row(INTS, 0);
        x.arg(I, 50);
        x.give(T, 0);
        runs(x, "21 zero is caught", zero, I, 1056, 3);
        x.row(INTS, 5);
        x.arg(I, 50);
        x.give(T, 1);
        runs(x, "21 no failure", any, I, 10, 2);
        int raising = acting(x, 4, Check.shape(I, I));
        int again = x.caught(h, 0, raising);
        x.arg(I, 50);
        x.give(T, -1);
        fails(x, "21 g fails", again, I, Check.RAISED, 3);
        Check.due("21 both counted", x.last(1), 2);
        Check.due("21 one caught", x.last(2), 1);
        int outer = x.caught(again, 7, g);
        x.arg(I, 50);
        x.give(T, -1);
        runs(x, "21 caught further out", outer, I, 1057, 5);
        Check.due("21 unknown h", x.caught(99, 0, g), Check.UNKNOWN);
        Check.due("21 unknown g", x.caught(h, 0, 99), Check.UNKNOWN);
        Check.due("21 below", x.caught(h, -1, g), Check.OUTSIDE);
        Check.due("21 spent cannot be caught", x.caught(h, 9, g), Check.OUTSIDE);
        int misfit = x.caught(x.spread(h, Check.CLASS_ROW, 1), 8, g);
        x.row(Check.CLASS_ROW, 2);
        x.arg(I, 50);
        x.give(Check.CLASS_ROW, 2);
        runs(x, "21 misfit is caught", misfit, I, 1058, 3);
        Check.due("21 result", x.caught(h, 0, summing(x, Check.shape(L, I))), Check.WRONG_TYPE);
        Check.due("21 no number", x.caught(h, 0, summing(x, Check.shape(I, L))), Check.WRONG_TYPE);
        Check.due("21 no parameters", x.caught(h, 0, summing(x, Check.shape(I))), Check.WRONG_TYPE);
        Check.due("21 other ones", x.caught(h, 0, summing(x, Check.shape(I, I, T))), Check.WRONG_TYPE);
        Check.due("21 more", x.caught(h, 0, summing(x, Check.shape(I, I, I, T, T))), Check.WRONG_TYPE);
    }

    private static void spread() {
        HandleMirror x = new HandleMirror();
        int h = acting(x, 1, Check.shape(I, L, T));
        int two = x.spread(h, INTS, 2);
        Check.due("22 shape", x.shape(two), Check.shape(I, INTS));
        x.row(INTS, 2);
        x.element(1, INTS);
        for (int i = 0; i < 2; i++) {
            x.give(INTS, 0);
            ints(x, i, 42 - 35 * i);
            x.run(x.count(2) - 1, true, N);
        }
        x.give(INTS, 0);
        runs(x, "22 worked", two, I, 6, 2);
        Check.due("22 one box", x.count(4), 1);
        int one = x.spread(h, INTS, 1);
        Check.due("22 shape of one", x.shape(one), Check.shape(I, L, INTS));
        x.arg(L, 1);
        x.give(INTS, 0);
        fails(x, "22 misfit", one, I, Check.MISFIT, 1);
        x.arg(L, 1);
        x.give(INTS, -1);
        fails(x, "22 null", one, I, Check.NULL, 1);
        int none = x.spread(h, INTS, 0);
        Check.due("22 shape of none", x.shape(none), Check.shape(I, L, T, INTS));
        x.arg(L, 5);
        x.give(T, 0);
        x.give(INTS, -1);
        runs(x, "22 none of none", none, I, 2, 2);
        x.arg(L, 5);
        x.give(T, 0);
        x.give(INTS, 0);
        fails(x, "22 none of two", none, I, Check.MISFIT, 1);
        Check.due("22 unknown", x.spread(99, INTS, 1), Check.UNKNOWN);
        Check.due("22 no row", x.spread(h, T, 1), Check.OUTSIDE);
        Check.due("22 below", x.spread(h, INTS, -1), Check.OUTSIDE);
        Check.due("22 above", x.spread(h, INTS, 3), Check.OUTSIDE);
        Check.due("22 not so", x.spread(h, Check.ROW + Check.FLOAT, 2), Check.WRONG_TYPE);
        Check.due("22 of classes", x.spread(h, Check.CLASS_ROW, 2), Check.WRONG_TYPE);
        Check.due("22 the last alone may be", x.shape(x.spread(h, Check.CLASS_ROW, 1)), Check.shape(I, L, Check.CLASS_ROW));
        int six = h;
        for (int i = 0; i < 4; i++) six = x.drop(six, 0, I);
        Check.due("22 seven", x.spread(six, INTS, 0), Check.OUTSIDE);
        Check.due("22 six", x.shape(x.spread(six, INTS, 1)), Check.shape(I, I, I, I, I, L, INTS));
    }

    private static void collect() {
        HandleMirror x = new HandleMirror();
        int h = acting(x, 2, Check.shape(I, INTS, I));
        int turned = x.permute(h, 1, Check.shape(I, I, INTS));
        int three = x.collect(turned, INTS, 3);
        Check.due("23 shape", x.shape(three), Check.shape(I, I, I, I, I));
        ints(x, 2, 10, 20, 30);
        runs(x, "23 worked", three, I, 30, 3);
        Check.due("23 a row made", x.count(4), 1);
        int none = x.collect(turned, INTS, 0);
        Check.due("23 shape of none", x.shape(none), Check.shape(I, I));
        ints(x, 0);
        fails(x, "23 none", none, I, Check.INDEX, 3);
        Check.due("23 five", x.shape(x.collect(turned, INTS, 5)), Check.shape(I, I, I, I, I, I, I));
        Check.due("23 six", x.collect(turned, INTS, 6), Check.OUTSIDE);
        Check.due("23 a great many", x.collect(turned, INTS, Integer.MAX_VALUE), Check.OUTSIDE);
        Check.due("23 below", x.collect(turned, INTS, -1), Check.OUTSIDE);
        Check.due("23 no row", x.collect(turned, I, 1), Check.OUTSIDE);
        Check.due("23 unknown", x.collect(99, INTS, 1), Check.UNKNOWN);
        Check.due("23 another row", x.collect(turned, INTS + 1, 1), Check.WRONG_TYPE);
        Check.due("23 last is no row", x.collect(h, INTS, 1), Check.WRONG_TYPE);
        int bare = summing(x, Check.shape(I));
        Check.due("23 no parameters", x.collect(bare, INTS, 0), Check.WRONG_TYPE);
        Check.due("23 no parameters, seven", x.collect(bare, INTS, 7), Check.OUTSIDE);
        int same = x.same(T);
        int rows = x.collect(same, Check.CLASS_ROW + 3, 1);
        x.object(3, 0);
        x.give(Check.LAST, 0);
        Check.due("23 into a thing", x.run(rows, true, T), 1);
        Check.due("23 kind", x.result(1), Check.CLASS_ROW + 3);
        x.keep();
        Check.due("23 element", x.told(1, 2, 0), 0);
        Check.due("23 rows of a class below", x.shape(x.collect(x.same(Check.CLASS_ROW), Check.CLASS_ROW + 4, 1)),
            Check.shape(Check.CLASS_ROW, Check.FAR));
        Check.due("23 rows of a class above", x.collect(x.same(Check.CLASS_ROW + 1), Check.CLASS_ROW, 1), Check.WRONG_TYPE);
    }

    private static void varied() {
        HandleMirror x = new HandleMirror();
        int h = summing(x, Check.shape(I, INTS));
        int varied = x.varied(h);
        Check.due("24 shape", x.shape(varied), Check.shape(I, INTS));
        ints(x, 1, 2, 3);
        Check.due("24 not so", x.run(h, false, I), Check.WRONG_TYPE);
        Check.due("24 run", x.run(varied, false, I), 1);
        Check.due("24 result", x.result(2), 3);
        Check.due("24 steps: adapted, collecting, varied, h", x.last(0), 4);
        x.give(INTS, -1);
        Check.due("24 exactly", x.run(varied, true, I), Check.NULL);
        Check.due("24 steps", x.last(0), 2);
        Check.due("24 unknown", x.varied(99), Check.UNKNOWN);
        Check.due("24 no parameters", x.varied(summing(x, Check.shape(I))), Check.WRONG_TYPE);
        Check.due("24 no row", x.varied(summing(x, Check.shape(I, INTS, T))), Check.WRONG_TYPE);
    }

    private static void element() {
        HandleMirror x = new HandleMirror();
        int rows = Check.CLASS_ROW;
        Check.due("25 what below", x.element(-1, INTS), Check.OUTSIDE);
        Check.due("25 what above", x.element(4, INTS), Check.OUTSIDE);
        Check.due("25 no row", x.element(0, T), Check.OUTSIDE);
        for (int what = 0; what < 4; what++) Check.due("25 new", x.element(what, rows), what);
        Check.due("25 get's shape", x.shape(0), Check.shape(Check.BASE, rows, I));
        Check.due("25 set's shape", x.shape(1), Check.shape(N, rows, I, Check.BASE));
        Check.due("25 length's shape", x.shape(2), Check.shape(I, rows));
        Check.due("25 new row's shape", x.shape(3), Check.shape(rows, I));
        Check.due("25 plain ones", x.shape(x.element(1, Check.ROW)), Check.shape(N, Check.ROW, I, Check.TRUTH));
        x.row(rows + 1, 2);
        x.object(3, 8);
        x.object(2, 9);
        setElement(x, 0, 1, 1, 1);
        setElement(x, 0, 1, 2, Check.STORE);
        setElement(x, 0, 2, 2, Check.INDEX);
        setElement(x, 0, -1, 2, Check.INDEX);
        setElement(x, -1, 5, 2, Check.NULL);
        x.give(rows, 0);
        ints(x, 1);
        runs(x, "25 get", 0, Check.BASE, 8, 1);
        setElement(x, 0, 1, -1, 1);
        Check.due("25 set to none", x.told(0, 2, 1), Check.NONE);
        x.give(rows, 0);
        ints(x, 2);
        fails(x, "25 get beyond", 0, Check.BASE, Check.INDEX, 1);
        x.give(rows, -1);
        ints(x, 0);
        fails(x, "25 get of none", 0, Check.BASE, Check.NULL, 1);
        x.give(rows, 0);
        runs(x, "25 length", 2, I, 2, 1);
        x.give(rows, -1);
        fails(x, "25 length of none", 2, I, Check.NULL, 1);
        newRow(x, 0, 1);
        newRow(x, 8, 1);
        newRow(x, 9, Check.MISFIT);
        newRow(x, -1, Check.SIZE);
        newRow(x, Integer.MIN_VALUE, Check.SIZE);
        newRow(x, Integer.MAX_VALUE, Check.MISFIT);
        Check.due("25 two made", x.count(4), 2);
    }

    private static void setElement(HandleMirror x, int row, int place, int thing, int answer) {
        x.give(Check.CLASS_ROW, row);
        ints(x, place);
        x.give(Check.BASE, thing);
        Check.due("25 set " + thing + " at " + place, x.run(1, true, N), answer);
    }

    private static void newRow(HandleMirror x, int n, int answer) {
        ints(x, n);
        Check.due("25 new row of " + n, x.run(3, true, Check.CLASS_ROW), answer);
        if (answer == 1) Check.due("25 its length", x.result(2), n);
    }

    private static void constant() {
        HandleMirror x = new HandleMirror();
        Check.due("26 no args", x.constant(), Check.STATE);
        x.object(1, 4);
        x.give(Check.BASE, 0);
        x.arg(Check.FLOAT, 7);
        Check.due("26 new", x.constant(), 0);
        Check.due("26 shape", x.shape(0), Check.shape(Check.FLOAT));
        Check.due("26 the latest went", x.count(3), 1);
        Check.due("26 new", x.constant(), 1);
        Check.due("26 as of a kind", x.shape(1), Check.shape(Check.BASE));
        runs(x, "26 plain", 0, Check.FLOAT, 7, 1);
        runs(x, "26 object", 1, Check.BASE, 4, 1);
        Check.due("26 itself", x.keep(), 0);
    }

    private static void same() {
        for (int kind = -1; kind < 50; kind++) {
            HandleMirror x = new HandleMirror();
            boolean held = false;
            for (int known : Check.KINDS) held |= known == kind && kind != N;
            Check.due("27 kind " + kind, x.same(kind), held ? 0 : Check.OUTSIDE);
            if (held) Check.due("27 shape", x.shape(0), Check.shape(kind, kind));
        }
        HandleMirror x = new HandleMirror();
        x.same(L);
        x.arg(L, -9);
        runs(x, "27 itself", 0, L, -9, 1);
    }

    private static void site() {
        HandleMirror x = new HandleMirror();
        int h = summing(x, Check.shape(I, I));
        int g = summing(x, Check.shape(I, I));
        int s = x.site(h);
        int around = x.after(s, h);
        Check.due("28 unknown", x.site(99), Check.UNKNOWN);
        Check.due("28 shape", x.shape(s), Check.shape(I, I));
        ints(x, 1);
        runs(x, "28 worked", s, I, 1, 2);
        Check.due("29 was", x.target(s, g), h);
        ints(x, 1);
        runs(x, "28 worked then", s, I, 1001, 2);
        ints(x, 1);
        runs(x, "28 worked within", around, I, 1001, 4);
        Check.due("29 unknown s", x.target(99, h), Check.UNKNOWN);
        Check.due("29 unknown h", x.target(s, -1), Check.UNKNOWN);
        Check.due("29 unknown ahead of outside", x.target(h, 99), Check.UNKNOWN);
        Check.due("29 no site", x.target(h, h), Check.OUTSIDE);
        Check.due("29 no site", x.target(around, h), Check.OUTSIDE);
        Check.due("29 another shape", x.target(s, summing(x, Check.shape(L, I))), Check.WRONG_TYPE);
        Check.due("29 still", x.target(s, around), g);
        ints(x, 1);
        fails(x, "28 a site below itself", s, I, Check.SPENT, 200);
        Check.due("29 itself", x.target(s, s), around);
        ints(x, 1);
        fails(x, "28 a site on itself", s, I, Check.SPENT, 200);
        Check.due("29 was itself", x.target(s, h), s);
        int any = x.caught(s, 0, x.permute(h, 0, Check.shape(I, I, I)));
        x.target(s, any);
        ints(x, 1);
        fails(x, "28 spent is not caught", any, I, Check.SPENT, 200);
        Check.due("28 one failure", x.last(1), 1);
        Check.due("28 none caught", x.last(2), 0);
    }

    private static void shape() {
        HandleMirror x = new HandleMirror();
        Check.due("30 unknown", x.shape(0), Check.UNKNOWN);
        x.same(44);
        Check.due("30 shape", x.shape(0), 45 << 8 | 45);
        Check.due("30 unknown", x.shape(1), Check.UNKNOWN);
        Check.due("30 unknown below", x.shape(-1), Check.UNKNOWN);
    }

    private static void full() {
        HandleMirror x = new HandleMirror();
        int h = x.same(I);
        int rows = x.same(INTS);
        int truth = x.drop(x.same(Check.TRUTH), 1, I);
        int test = x.filter(truth, 0, x.same(Check.TRUTH));
        int site = x.site(h);
        int second = x.drop(h, 1, I);
        while (x.count(2) < 60) x.same(I);
        x.arg(Check.LONG, 1);
        Check.due("13 itself, full", x.as(h, Check.shape(I, I)), h);
        Check.due("13 full", x.as(h, Check.shape(L, I)), Check.FULL);
        Check.due("13 type ahead of full", x.as(h, Check.shape(I, L)), Check.WRONG_TYPE);
        Check.due("14 full ahead of cast", x.bind(h, 0), Check.FULL);
        Check.due("15 full", x.drop(h, 0, I), Check.FULL);
        Check.due("16 full", x.permute(h, 0, Check.shape(I, I)), Check.FULL);
        Check.due("17 full", x.filter(h, 0, h), Check.FULL);
        Check.due("18 full", x.fold(h, x.count(2) - 1), Check.WRONG_TYPE);
        Check.due("18 full", x.fold(second, h), Check.FULL);
        Check.due("19 full", x.after(h, h), Check.FULL);
        Check.due("20 full", x.guard(test, test, test), Check.FULL);
        Check.due("21 full", x.caught(h, 0, h), Check.FULL);
        Check.due("22 full", x.spread(h, INTS, 1), Check.FULL);
        Check.due("23 full", x.collect(rows, INTS, 1), Check.FULL);
        Check.due("24 full", x.varied(rows), Check.FULL);
        Check.due("25 full", x.element(0, INTS), Check.FULL);
        Check.due("26 full", x.constant(), Check.FULL);
        Check.due("26 the arg is there still", x.count(3), 1);
        Check.due("27 full", x.same(I), Check.FULL);
        Check.due("28 full", x.site(h), Check.FULL);
        Check.due("29 a target still", x.target(site, h), h);
        Check.due("36 handles", x.count(2), 60);
    }
}
