/** Promises 31 to 36: runs, and what is told of them. */
public final class RunsTest {
    private static final int I = Check.INT, L = Check.LONG, T = Check.THING, N = Check.NOTHING;

    public static void main(String[] args) {
        run();
        direct();
        result();
        keep();
        last();
        count();
        steps();
        manyFailures();
        manyMade();
        Check.end("RunsTest");
    }

    private static void run() {
        HandleMirror x = new HandleMirror();
        x.method(0, 0, 1, 1, Check.shape(L, L, L));
        int h = x.find(1, 0, 0, Check.shape(L, L, L), 0);
        x.arg(I, 42);
        x.arg(L, 6);
        String before = Check.state(x);
        Check.due("31 exactly", x.run(h, true, L), Check.WRONG_TYPE);
        Check.due("31 unknown", x.run(h + 1, true, 99), Check.UNKNOWN);
        Check.due("31 unknown below", x.run(-1, false, L), Check.UNKNOWN);
        Check.due("31 kind", x.run(h, false, 19), Check.OUTSIDE);
        Check.due("31 kind below", x.run(h, false, -1), Check.OUTSIDE);
        Check.due("31 result's kind", x.run(h, false, I), Check.WRONG_TYPE);
        Check.due("31 unchanged", Check.state(x).equals(before) ? 1 : 0, 1);
        Check.due("31 adapted", x.run(h, false, T), 1);
        Check.due("31 steps", x.last(0), 2);
        Check.due("31 args are gone", x.count(3), 0);
        Check.due("31 handles are none more", x.count(2), 1);
        x.arg(L, 42);
        x.arg(L, 0);
        Check.due("31 not adapted", x.run(h, false, L), Check.ZERO);
        Check.due("31 one step", x.last(0), 1);
        Check.due("31 args are gone with a failure", x.count(3), 0);
        Check.due("31 too few", x.run(h, false, L), Check.WRONG_TYPE);
        x.arg(L, 1);
        x.arg(L, 1);
        Check.due("31 exactly another result", x.run(h, true, N), Check.WRONG_TYPE);
        Check.due("31 for nothing", x.run(h, false, N), 1);
    }

    private static void direct() {
        HandleMirror x = new HandleMirror();
        x.method(0, 0, 0, 0, Check.shape(I));
        x.method(1, 0, 0, 7, Check.shape(I));
        x.method(2, 0, 3, 0, Check.shape(I));
        x.maker(3, 2, Check.shape(N, I));
        x.field(4, 0, 2, I);
        x.field(4, 1, 9, I);
        x.object(1, 20);
        x.object(4, 6);
        Check.due("32 unknown", x.direct(6, 99), Check.UNKNOWN);
        Check.due("32 unknown below", x.direct(-1, I), Check.UNKNOWN);
        Check.due("32 kind", x.direct(0, 28), Check.OUTSIDE);
        Check.due("32 type", x.direct(0, I), Check.WRONG_TYPE);
        x.give(T, 0);
        Check.due("32 virtual", x.direct(0, I), 1);
        Check.due("32 the receiver's", x.result(2), 41);
        Check.due("32 adapted", x.last(0), 2);
        x.give(Check.BASE, 1);
        Check.due("32 virtual exactly", x.direct(0, I), 1);
        Check.due("32 one step", x.last(0), 1);
        Check.due("32 static", x.direct(2, L), 1);
        Check.due("32 static result", x.result(2), 2000);
        x.arg(I, 77);
        Check.due("32 maker", x.direct(3, Check.LEFT), 1);
        Check.due("32 made", x.result(1), Check.LAST);
        x.give(Check.FAR, 1);
        Check.due("32 getter", x.direct(4, I), 1);
        Check.due("32 field", x.result(2), 0);
        Check.due("32 static getter", x.direct(5, I), 1);
        Check.due("32 static field", x.result(2), 5);
        Check.due("32 no handles", x.count(2), 0);
        x.give(T, 0);
        Check.due("32 cast", x.direct(4, I), Check.CAST);
        x.method(0, 1, 5, 0, Check.shape(I, Check.ROW + I));
        x.arg(I, 1);
        x.arg(I, 1);
        Check.due("32 varied", x.direct(6, I), 1);
        Check.due("32 varied length", x.result(2), 6002);
        Check.due("32 varied steps", x.last(0), 3);
    }

    private static void result() {
        HandleMirror x = new HandleMirror();
        Check.due("33 none", x.result(0), Check.STATE);
        Check.due("33 state ahead of outside", x.result(9), Check.STATE);
        x.method(0, 0, 1, 0, Check.shape(N));
        Check.due("33 run", x.direct(0, N), 1);
        told(x, N, N, 0);
        Check.due("33 below", x.result(-1), Check.OUTSIDE);
        Check.due("33 above", x.result(3), Check.OUTSIDE);
        x.direct(0, T);
        told(x, T, Check.NONE, 0);
        x.direct(0, Check.DOUBLE);
        told(x, Check.DOUBLE, Check.DOUBLE, 0);
        x.same(T);
        x.arg(Check.FLOAT, Float.floatToRawIntBits(-2f));
        x.run(0, false, T);
        told(x, T, Check.BOX + Check.FLOAT, Float.floatToRawIntBits(-2f));
        x.row(Check.ROW, 7);
        x.give(T, 0);
        x.run(0, true, T);
        told(x, T, Check.ROW, 7);
        x.method(0, 1, 0, 6, Check.shape(N, I));
        x.object(0, 3);
        x.give(T, 1);
        x.run(0, true, T);
        told(x, T, Check.BASE, 3);
        x.give(T, 1);
        x.run(0, false, I);
        Check.due("33 a failure brings nothing", x.last(3), 2);
        told(x, T, Check.BASE, 3);
    }

    private static void told(HandleMirror x, int asked, int kind, long bits) {
        Check.due("33 asked", x.result(0), asked);
        Check.due("33 kind", x.result(1), kind);
        Check.due("33 bits", x.result(2), bits);
    }

    private static void keep() {
        HandleMirror x = new HandleMirror();
        Check.due("34 none", x.keep(), Check.STATE);
        x.same(T);
        x.arg(I, 5);
        x.run(0, false, T);
        Check.due("34 kept", x.keep(), 0);
        Check.due("34 again", x.keep(), 0);
        Check.due("34 a box", x.told(0, 0, 0), Check.BOX + I);
        Check.due("34 bits", x.told(0, 1, 0), 5);
        x.give(T, 0);
        x.run(0, true, T);
        Check.due("34 has a number", x.keep(), 0);
        x.arg(I, 1);
        x.run(0, false, I);
        Check.due("34 plain", x.result(1), I);
        Check.due("34 plain cannot be kept", x.keep(), Check.STATE);
        x.give(T, -1);
        x.run(0, true, T);
        Check.due("34 none", x.keep(), Check.STATE);
        x.arg(I, 5);
        x.run(0, false, N);
        Check.due("34 nothing", x.keep(), Check.STATE);
        x.object(0, 0);
        while (x.count(0) < 60) x.object(0, 0);
        x.give(T, 1);
        x.run(0, true, T);
        Check.due("34 has a number, full", x.keep(), 1);
        x.arg(I, 5);
        x.run(0, false, T);
        Check.due("34 full", x.keep(), Check.FULL);
    }

    private static void last() {
        HandleMirror x = new HandleMirror();
        Check.due("35 below", x.last(-1), Check.OUTSIDE);
        Check.due("35 above", x.last(4), Check.OUTSIDE);
        x.method(0, 0, 1, 4, Check.shape(N));
        x.direct(0, N);
        Check.due("35 steps", x.last(0), 1);
        Check.due("35 failures", x.last(1), 1);
        Check.due("35 caught", x.last(2), 0);
        Check.due("35 ended", x.last(3), 7);
        x.direct(0, 99);
        Check.due("35 a refused one is no run", x.last(3), 7);
        x.same(I);
        x.arg(I, 1);
        x.run(0, true, I);
        Check.due("35 ended well", x.last(3), 0);
        Check.due("35 no failures", x.last(1), 0);
    }

    private static void count() {
        HandleMirror x = new HandleMirror();
        int[] none = {-1, 5, 9, 10, 21, Integer.MIN_VALUE, Integer.MAX_VALUE};
        for (int what : none) Check.due("36 " + what, x.count(what), Check.OUTSIDE);
        x.object(0, 0);
        x.row(24, -1);
        x.same(I);
        x.same(T);
        x.method(0, 0, 1, 4, Check.shape(N));
        x.arg(I, 1);
        x.arg(I, 1);
        x.give(Check.BOX, 0);
        Check.due("36 things", x.count(0), 1);
        Check.due("36 members", x.count(1), 1);
        Check.due("36 handles", x.count(2), 2);
        Check.due("36 args", x.count(3), 2);
        Check.due("36 made", x.count(4), 0);
        Check.due("36 failures of refused calls are none", x.count(12) + x.count(15), 0);
        x.forget();
        x.direct(0, N);
        x.direct(0, N);
        Check.due("36 failures", x.count(17), 2);
    }

    /** Doubling handles: 1, 3, 7 .. steps. */
    private static void steps() {
        HandleMirror x = new HandleMirror();
        int h = x.same(I);
        for (int i = 0; i < 7; i++) h = x.after(h, h);
        x.arg(I, 1);
        Check.due("35 255 steps", x.run(h, true, I), Check.SPENT);
        Check.due("35 200 at most", x.last(0), 200);
        Check.due("36 spent", x.count(19), 1);
        int chain = x.same(I);
        for (int i = 0; i < 40; i++) chain = x.site(chain);
        x.arg(I, 8);
        Check.due("35 a chain", x.run(chain, true, I), 1);
        Check.due("35 its steps", x.last(0), 41);
        exactly200();
    }

    private static void exactly200() {
        HandleMirror x = new HandleMirror();
        int h = x.same(I);
        for (int i = 0; i < 6; i++) h = x.after(h, h);
        int rest = x.same(I);
        for (int i = 0; i < 5; i++) rest = x.after(rest, rest);
        int most = x.after(h, rest);
        Check.due("127 + 63 + 1", most, h + 7);
        for (int i = 0; i < 9; i++) most = x.site(most);
        x.arg(I, 8);
        Check.due("200 steps", x.run(most, true, I), 1);
        Check.due("200 steps", x.last(0), 200);
        x.arg(I, 8);
        Check.due("201 steps", x.run(x.site(most), true, I), Check.SPENT);
        x.arg(I, 8);
        Check.due("201 steps by adapting", x.run(most, false, L), Check.SPENT);
    }

    private static void manyFailures() {
        HandleMirror x = new HandleMirror();
        x.method(0, 0, 1, 4, Check.shape(N));
        x.same(I);
        int raise = x.find(1, 0, 0, Check.shape(N), 0);
        int swallow = x.caught(raise, 7, x.as(0, Check.shape(N, I)));
        int four = swallow;
        for (int i = 0; i < 4; i++) four = x.after(four, four);
        Check.due("16 failures", x.run(four, true, N), 1);
        Check.due("16 caught", x.last(2), 16);
        for (int i = 1; i < 250; i++) x.run(four, true, N);
        Check.due("31 4000 failures", x.count(17), 4000);
        Check.due("31 state", x.run(four, true, N), Check.STATE);
        Check.due("31 state ahead of type", x.run(four, true, I), Check.STATE);
        Check.due("31 outside ahead of state", x.run(four, true, 99), Check.OUTSIDE);
        Check.due("32 state", x.direct(0, N), Check.STATE);
    }

    /** Each run makes 32 boxes, until there are 8000. */
    private static void manyMade() {
        HandleMirror x = new HandleMirror();
        x.same(T);
        x.same(I);
        int boxing = x.as(0, Check.shape(N, I));
        x.arg(I, 1);
        int h = x.bind(boxing, 0);
        Check.due("14 nothing made for a plain one", x.count(4), 0);
        for (int i = 0; i < 5; i++) h = x.after(h, h);
        for (int i = 0; i < 250; i++) Check.due("32 more", x.run(h, true, N), 1);
        Check.due("8000 made", x.count(4), 8000);
        Check.due("not one more", x.run(h, true, N), Check.NO_ROOM);
        Check.due("8000 at most", x.count(4), 8000);
        Check.due("one failure", x.count(20), 1);
        x.arg(I, 1);
        Check.due("one more", x.run(0, false, T), Check.NO_ROOM);
        Check.due("ended so", x.last(3), 10);
        Check.due("counted", x.count(20) > 0 ? 1 : 0, 1);
        x.arg(I, 1);
        Check.due("14 full of these", x.bind(0, 0), Check.NO_ROOM);
        Check.due("14 the arg is there still", x.count(3), 1);
        Check.due("14 plain is none", x.bind(1, 0), x.count(2) - 1);
        Check.due("object() is not made by runs", x.object(0, 0), 0);
        x.arg(Check.BOX + I, 4);
        Check.due("nor is a box of arg()", x.run(0, false, T), 1);
        Check.due("keep() makes none", x.keep(), 1);
        fullIsNotCaught(x);
    }

    private static void fullIsNotCaught(HandleMirror x) {
        int boxing = x.as(0, Check.shape(T, I));
        int any = x.caught(boxing, 0, boxing);
        x.arg(I, 1);
        Check.due("full is not caught", x.run(any, true, T), Check.NO_ROOM);
        Check.due("none caught", x.last(2), 0);
        int rows = x.element(3, 24);
        x.arg(I, -1);
        Check.due("size ahead of full", x.run(rows, true, 24), Check.SIZE);
        x.arg(I, 1);
        Check.due("a row", x.run(rows, true, 24), Check.NO_ROOM);
        x.maker(0, 0, Check.shape(N));
        Check.due("an object", x.direct(0, Check.BASE), Check.NO_ROOM);
        Check.due("still 8000", x.count(4), 8000);
    }
}
