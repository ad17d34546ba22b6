/** Boundary cases of promises 13 to 21: what is made of handles. */
public final class BoundsHandlesTest extends Bounds {
    private static final int ROWS = ROW + INT;

    public static void main(String[] args) {
        asItself();
        asRefused();
        asFull();
        bindTheLatest();
        bindRefused();
        bindPlain();
        bindOthers();
        bindFullOfMade();
        dropAt();
        dropKinds();
        dropSix();
        dropRefused();
        dropFull();
        permuteOrder();
        permuteDigits();
        permuteTypes();
        permuteRefused();
        permuteFull();
        filterAt();
        filterOthers();
        filterTypes();
        filterRefused();
        filterFull();
        foldParameters();
        foldOthers();
        foldNothing();
        foldRefused();
        foldFull();
        afterResult();
        afterRefused();
        afterFull();
        guardTruth();
        guardValues();
        guardShapes();
        guardRefused();
        guardFull();
        caughtFailures();
        caughtValues();
        caughtTypes();
        caughtRefused();
        caughtFull();
        end("BoundsHandlesTest", 13, 21);
    }

    /** The handle 0 of (INT) INT, and the handle 1 of a shape, which has the same result for all values. */
    private static HandleMirror ofShape(int result, int... parameters) {
        HandleMirror x = new HandleMirror();
        x.same(INT);
        brought(x, result, parameters);
        return x;
    }

    /** A handle of a shape that brings what is made of 1000 times a member's number. */
    private static int brought(HandleMirror x, int result, int... parameters) {
        int h = summing(x, shape(result));
        return parameters.length == 0 ? h : x.permute(h, 0, shape(result, parameters));
    }

    // ---- 13

    private static void asItself() {
        promise(13, "h ADAPTED to a SHAPE: h itself, if that is its own and it is not VARIED.");
        given(() -> {
            HandleMirror x = new HandleMirror();
            x.same(ROWS);
            x.varied(0);
            return x;
        });
        answers("its own", 0, x -> x.as(0, shape(ROWS, ROWS)));
        answers("another result", 2, x -> x.as(0, shape(THING, ROWS)));
        answers("another parameter", 2, x -> x.as(0, shape(ROWS, THING)));
        answers("its own, varied", 2, x -> x.as(1, shape(ROWS, ROWS)));
        given(() -> handles(ofShape(INT, INT), 60));
        answers("its own, full", 59, x -> x.as(59, shape(INT, INT)));
        answers("no handle more", 60, x -> {
            x.as(0, shape(INT, INT));
            return x.count(2);
        });
    }

    private static void asFull() {
        promise(13, "WRONG TYPE; FULL.");
        given(() -> handles(ofShape(INT, LONG), 59));
        answers("the 60th", 59, x -> x.as(0, shape(LONG, INT)));
        given(() -> handles(ofShape(INT, LONG), 60));
        refused("the 61st", FULL, x -> x.as(0, shape(LONG, INT)));
    }

    private static void asRefused() {
        promise(13, "UNKNOWN; OUTSIDE; WRONG TYPE; FULL.");
        given(HandleMirror::new);
        unknown("of none", (x, h) -> x.as(h, shape(INT, INT)));
        given(() -> ofShape(INT, LONG));
        unknown("unknown, outside", (x, h) -> x.as(h, 0));
        refused("outside", OUTSIDE, x -> x.as(0, 0));
        refused("wrong type", WRONG_TYPE, x -> x.as(0, shape(INT)));
        given(() -> handles(ofShape(INT, LONG), 60));
        unknown("unknown, outside, full", (x, h) -> x.as(h, 0));
        refused("outside, full", OUTSIDE, x -> x.as(0, shape(INT, INT) | 1L << 56));
        refused("wrong type, full", WRONG_TYPE, x -> x.as(0, shape(INT, LONG)));
    }

    // ---- 14

    private static void bindTheLatest() {
        promise(14, "h with the latest of ARGS (which goes) as PARAMETER at (from 0).");
        for (int size = 1; size <= 6; size++) {
            for (int at = 0; at < size; at++) {
                int[] parameters = of(LONG, size);
                parameters[at] = INT;
                HandleMirror x = ofShape(INT, parameters);
                ints(x, 1, 2, 3, 4, 5, 6);
                int picking = x.permute(0, at, shape(INT, parameters));
                due("bound", x.bind(picking, at), picking + 1);
                bindKeepsOthers(size, at);
                due("the latest went", x.count(3), 5);
                due("shape", x.shape(picking + 1), shape(INT, of(LONG, size - 1)));
                x.forget();
                for (int i = 1; i < size; i++) x.arg(LONG, 99);
                brings("at " + at + " of " + size, x, x.run(picking + 1, true, INT), INT, 6);
            }
        }
    }

    private static void bindKeepsOthers(int size, int at) {
        for (int of = 0; of < size; of++) {
            HandleMirror x = new HandleMirror();
            int h = picking(x, size, of);
            ints(x, 99);
            int bound = x.bind(h, at);
            for (int i = 0; i < size; i++) {
                if (i != at) ints(x, i);
            }
            brings("value " + of + ", bound at " + at + " of " + size, x, x.run(bound, true, INT), INT, of == at ? 99 : of);
        }
    }

    private static void bindRefused() {
        promise(14, "UNKNOWN; OUTSIDE: at; STATE: no ARGS; FULL");
        int[] places = {LOWEST, -1, 0, 1, 2, 3, 6, HIGHEST};
        for (int size = 0; size <= 3; size++) {
            int n = size;
            for (int at : places) {
                boolean inside = at >= 0 && at < n;
                given(() -> ints(ofShape(INT, of(INT, n)), 1));
                int next = n == 0 ? 2 : 3;
                bounded(at + " of " + n, inside, next, OUTSIDE, x -> x.bind(next - 1, at));
                given(() -> ofShape(INT, of(INT, n)));
                refused(at + " of " + n + ", no args", inside ? STATE : OUTSIDE, x -> x.bind(next - 1, at));
                given(() -> ints(handles(ofShape(INT, of(INT, n)), 60), 1));
                refused(at + " of " + n + ", full", inside ? FULL : OUTSIDE, x -> x.bind(next - 1, at));
                given(() -> handles(ofShape(INT, of(INT, n)), 60));
                refused(at + " of " + n + ", no args, full", inside ? STATE : OUTSIDE, x -> x.bind(next - 1, at));
            }
        }
        given(() -> ofShape(INT, INT));
        unknown("unknown, outside, no args", (x, h) -> x.bind(h, -1));
        given(() -> {
            HandleMirror x = handles(ofShape(INT, INT), 60);
            x.give(THING, NONE);
            return x;
        });
        refused("full, null", FULL, x -> x.bind(0, 0));
        given(() -> handles(ints(ofShape(INT, LONG), 1), 60));
        refused("full, cast", FULL, x -> x.bind(2, 0));
    }

    private static void bindPlain() {
        promise(14, "a PLAIN PARAMETER: minus 1 (NULL): the VALUE is NONE; minus 2 (CAST): its KIND is not this one, nor is it a BOX of it");
        for (int kind = TRUTH; kind <= DOUBLE; kind++) {
            int plain = kind;
            for (int other = TRUTH; other <= DOUBLE; other++) {
                int from = other;
                for (int box = 0; box <= BOX; box += BOX) {
                    int argKind = from + box;
                    given(() -> {
                        HandleMirror x = new HandleMirror();
                        x.same(plain);
                        x.arg(argKind, 1);
                        return x;
                    });
                    bounded(argKind + " to " + kind, from == plain, 1, CAST, x -> x.bind(0, 0));
                }
            }
            for (int reference : KINDS) {
                if (!isReference(reference)) continue;
                given(() -> {
                    HandleMirror x = new HandleMirror();
                    x.same(plain);
                    x.give(reference, NONE);
                    return x;
                });
                refused("none of " + reference + " to " + kind, NULL, x -> x.bind(0, 0));
            }
            given(() -> {
                HandleMirror x = new HandleMirror();
                x.same(plain);
                x.give(THING, x.object(0, 1));
                return x;
            });
            refused("an object to " + kind, CAST, x -> x.bind(0, 0));
            boxAsThing(plain);
        }
    }

    /** A box that was given as a THING is one of its plain kind all the same. */
    private static void boxAsThing(int plain) {
        HandleMirror x = new HandleMirror();
        x.same(plain);
        x.arg(BOX + plain, 0);
        x.constant();
        x.run(1, true, BOX + plain);
        x.give(THING, x.keep());
        due("a box as a thing", x.bind(0, 0), 2);
        brings("a box as a thing", x, x.run(2, true, plain), plain, 0);
        due("nothing is made", x.count(4), 0);
    }

    private static void bindOthers() {
        promise(14, "others: the VALUE (a PLAIN one's BOX is MADE; minus 10: FULL of these) is not of the KIND: minus 2.");
        for (int kind : KINDS) {
            if (!isReference(kind)) continue;
            for (int plain = TRUTH; plain <= DOUBLE; plain++) {
                int from = plain;
                given(() -> {
                    HandleMirror x = new HandleMirror();
                    x.same(kind);
                    x.arg(from, 1);
                    return x;
                });
                boolean is = kind == THING || kind == BOX + from || kind == NUMBER && from != TRUTH && from != CHAR;
                bounded(plain + " to " + kind, is, 1, CAST, x -> x.bind(0, 0));
                if (is) boundBox(kind, from);
            }
            given(() -> {
                HandleMirror x = new HandleMirror();
                x.same(kind);
                x.give(THING, NONE);
                return x;
            });
            answers("none to " + kind, 1, x -> x.bind(0, 0));
            given(() -> {
                HandleMirror x = new HandleMirror();
                x.same(kind);
                x.give(THING, x.object(3, 1));
                return x;
            });
            boolean is = kind == THING || kind == BASE || kind == LEFT || kind == LAST;
            bounded("a last to " + kind, is, 1, CAST, x -> x.bind(0, 0));
        }
    }

    private static void boundBox(int kind, int plain) {
        HandleMirror x = new HandleMirror();
        x.same(kind);
        x.arg(plain, 1);
        due("bound", x.bind(0, 0), 1);
        due("made", x.count(4), 1);
        brings("its box", x, x.run(1, true, kind), BOX + plain, 1);
        brings("no further box", x, x.run(1, true, kind), BOX + plain, 1);
        due("made once", x.count(4), 1);
    }

    private static void bindFullOfMade() {
        promise(14, "minus 10: FULL of these");
        for (int n = MOST_MADE - 1; n <= MOST_MADE; n++) {
            int now = n;
            given(() -> {
                HandleMirror x = new HandleMirror();
                x.same(THING);
                x.same(INT);
                return ints(made(x, now), 1);
            });
            int next = situationHandles();
            bounded("a box with " + n + " made", n < MOST_MADE, next, NO_ROOM, x -> x.bind(0, 0));
            answers("no box with " + n + " made", next, x -> x.bind(1, 0));
        }
        given(() -> {
            HandleMirror x = new HandleMirror();
            x.same(THING);
            return ints(handles(made(x, MOST_MADE), 60), 1);
        });
        refused("full of handles, and of these", FULL, x -> x.bind(0, 0));
    }

    private static int situationHandles() {
        HandleMirror x = new HandleMirror();
        x.same(THING);
        x.same(INT);
        return made(x, 0).count(2);
    }

    // ---- 15

    private static void dropAt() {
        promise(15, "h with one PARAMETER more, ahead of that at (0 .. how many there are), which is dropped.");
        int[] places = {LOWEST, -1, 0, 1, 2, 3, 4, 5, 6, HIGHEST};
        for (int size = 0; size <= 5; size++) {
            int n = size;
            given(() -> ofShape(INT, of(LONG, n)));
            int next = n == 0 ? 2 : 3;
            for (int at : places) {
                bounded(at + " of " + n, at >= 0 && at <= n, next, OUTSIDE, x -> x.drop(next - 1, at, THING));
                if (at < 0 || at > n) continue;
                int[] parameters = of(LONG, n + 1);
                parameters[at] = THING;
                answers("shape", shape(INT, parameters), x -> x.shape(x.drop(next - 1, at, THING)));
            }
        }
        for (int at = 0; at <= 5; at++) {
            for (int of = 0; of < 5; of++) {
                HandleMirror x = new HandleMirror();
                int h = x.drop(picking(x, 5, of), at, INT);
                brings("value " + of + ", dropped at " + at, ints(x, 11, 22, 33, 44, 55, 66), x.run(h, true, INT), INT, 11 * (of < at ? of + 1 : of + 2));
            }
        }
    }

    private static void dropKinds() {
        promise(15, "KIND (NOTHING, too)");
        given(() -> ofShape(INT, INT));
        for (int kind = -1; kind <= 45; kind++) {
            int now = kind;
            bounded("kind " + kind, isKind(kind) && kind != NOTHING, 3, OUTSIDE, x -> x.drop(0, 1, now));
        }
    }

    private static void dropSix() {
        promise(15, "there are 6");
        for (int size = 5; size <= 6; size++) {
            int n = size;
            given(() -> ofShape(INT, of(INT, n)));
            for (int at = 0; at <= n; at++) {
                int place = at;
                bounded("ahead of " + at + " of " + n, n < 6, 3, OUTSIDE, x -> x.drop(2, place, INT));
            }
        }
    }

    private static void dropFull() {
        promise(15, "there are 6; FULL.");
        given(() -> handles(ofShape(INT), 59));
        answers("the 60th", 59, x -> x.drop(0, 1, INT));
        given(() -> handles(ofShape(INT), 60));
        refused("the 61st", FULL, x -> x.drop(0, 1, INT));
    }

    private static void dropRefused() {
        promise(15, "UNKNOWN; OUTSIDE: at, KIND (NOTHING, too), there are 6; FULL.");
        given(HandleMirror::new);
        unknown("of none", (x, h) -> x.drop(h, 0, INT));
        given(() -> handles(ofShape(INT, of(INT, 6)), 60));
        unknown("unknown, outside, full", (x, h) -> x.drop(h, -1, NOTHING));
        refused("at, full", OUTSIDE, x -> x.drop(0, 2, INT));
        refused("kind, full", OUTSIDE, x -> x.drop(0, 0, NOTHING));
        refused("there are 6, full", OUTSIDE, x -> x.drop(2, 0, INT));
    }

    // ---- 16

    private static void permuteOrder() {
        promise(16, "digit i of order (decimal, the lowest is 0) is the number of that which is h's PARAMETER i.");
        HandleMirror x = new HandleMirror();
        int h = acting(x, 1, shape(INT, INT, INT));
        long six = shape(INT, of(INT, 6));
        for (int first = 0; first < 6; first++) {
            for (int second = 0; second < 6; second++) {
                due("permuted", x.permute(h, first + 10 * second, six), x.count(2) - 1);
                ints(x, 1000, 700, 500, 60, 7, 2);
                long[] values = {1000, 700, 500, 60, 7, 2};
                brings(first + " by " + second, x, x.run(x.count(2) - 1, true, INT), INT, values[first] / values[second]);
            }
        }
        HandleMirror most = ofShape(INT, of(INT, 6));
        due("six digits", most.permute(2, 555555, six), 3);
        due("one for all", most.permute(2, 0, shape(INT, INT)), 4);
    }

    private static void permuteDigits() {
        promise(16, "order (below 0; a digit names none; a further digit is not 0)");
        int[] orders = {LOWEST, -1, -10, 0, 1, 2, 9, 10, 11, 12, 20, 90, 100, 101, 110, 1000000000, HIGHEST};
        for (int size = 0; size <= 2; size++) {
            int n = size;
            given(() -> {
                HandleMirror x = ofShape(INT, of(INT, n));
                x.same(INT);
                return x;
            });
            int next = n == 0 ? 3 : 4;
            for (int order : orders) {
                for (int asked = 0; asked <= 2; asked++) {
                    boolean inside = order >= 0 && named(order, n, asked);
                    long shape = shape(INT, of(INT, asked));
                    bounded(n + " parameters by " + order + " of " + asked, inside, next, OUTSIDE, x -> x.permute(next - 2, order, shape));
                }
            }
        }
    }

    /** Whether each of the lowest digits is below a size, and no further digit is there. */
    private static boolean named(int order, int digits, int size) {
        String text = String.format("%010d", order);
        for (int i = 0; i < 10; i++) {
            int digit = text.charAt(9 - i) - '0';
            if (i < digits ? digit >= size : digit != 0) return false;
        }
        return true;
    }

    private static void permuteTypes() {
        promise(16, "WRONG TYPE: KINDS, results are not the same");
        given(() -> {
            HandleMirror x = new HandleMirror();
            summing(x, shape(INT, INT, LEFT));
            return x;
        });
        answers("the same", 1, x -> x.permute(0, 10, shape(INT, INT, LEFT)));
        answers("turned round", 1, x -> x.permute(0, 1, shape(INT, LEFT, INT)));
        answers("with others", 1, x -> x.permute(0, 20, shape(INT, INT, ROW, LEFT)));
        refused("what widens is not the same", WRONG_TYPE, x -> x.permute(0, 10, shape(INT, SHORT, LEFT)));
        refused("what is below is not the same", WRONG_TYPE, x -> x.permute(0, 10, shape(INT, INT, LAST)));
        refused("a result that widens is not the same", WRONG_TYPE, x -> x.permute(0, 10, shape(LONG, INT, LEFT)));
        refused("no result", WRONG_TYPE, x -> x.permute(0, 10, shape(NOTHING, INT, LEFT)));
        refused("turned round wrongly", WRONG_TYPE, x -> x.permute(0, 1, shape(INT, INT, LEFT)));
    }

    private static void permuteFull() {
        promise(16, "results are not the same; FULL.");
        given(() -> handles(ofShape(INT, INT), 59));
        answers("the 60th", 59, x -> x.permute(0, 0, shape(INT, INT)));
        given(() -> handles(ofShape(INT, INT), 60));
        refused("the 61st", FULL, x -> x.permute(0, 0, shape(INT, INT)));
    }

    private static void permuteRefused() {
        promise(16, "UNKNOWN; OUTSIDE: SHAPE, order");
        given(HandleMirror::new);
        unknown("of none", (x, h) -> x.permute(h, 0, shape(INT, INT)));
        given(() -> handles(ofShape(INT, INT), 60));
        unknown("unknown, outside, full", (x, h) -> x.permute(h, -1, 0));
        refused("shape, full", OUTSIDE, x -> x.permute(0, 0, 0));
        refused("order, wrong type, full", OUTSIDE, x -> x.permute(0, 1, shape(LONG, LONG)));
        refused("a further digit, wrong type, full", OUTSIDE, x -> x.permute(0, 10, shape(LONG, LONG)));
        refused("wrong type, full", WRONG_TYPE, x -> x.permute(0, 0, shape(INT, LONG)));
    }

    // ---- 17

    private static void filterAt() {
        promise(17, "h, of which PARAMETER at is first worked by g.");
        int[] places = {LOWEST, -1, 0, 1, 5, 6, HIGHEST};
        for (int size = 0; size <= 6; size++) {
            int n = size;
            given(() -> ofShape(INT, of(INT, n)));
            int next = n == 0 ? 2 : 3;
            for (int at : places) bounded(at + " of " + n, at >= 0 && at < n, next, OUTSIDE, x -> x.filter(next - 1, at, 0));
        }
        HandleMirror x = new HandleMirror();
        int h = acting(x, 1, shape(INT, INT, INT));
        int g = acting(x, 1, shape(INT, LONG, LONG));
        x.arg(LONG, 2);
        int half = x.bind(g, 1);
        for (int at = 0; at <= 1; at++) {
            int filtering = x.filter(h, at, half);
            due("shape", x.shape(filtering), shape(INT, at == 0 ? LONG : INT, at == 1 ? LONG : INT));
            x.arg(at == 0 ? LONG : INT, 84);
            x.arg(at == 1 ? LONG : INT, 6);
            brings("at " + at, x, x.run(filtering, true, INT), INT, at == 0 ? 7 : 28);
            takes("at " + at, x, 4, 0, 0, 0);
        }
    }

    /** The others come as they are. */
    private static void filterOthers() {
        promise(17, "h, of which PARAMETER at is first worked by g.");
        for (int at = 0; at < 6; at++) {
            for (int of = 0; of < 6; of++) {
                HandleMirror x = new HandleMirror();
                int h = picking(x, 6, of);
                int g = summing(members(x, 7), shape(INT, INT));
                int filtering = x.filter(h, at, g);
                brings("value " + of + ", filtered at " + at, ints(x, 1, 2, 3, 4, 5, 6), x.run(filtering, true, INT), INT, of + 1 + (of == at ? 7000 : 0));
            }
        }
    }

    private static void filterTypes() {
        promise(17, "WRONG TYPE: g has not one PARAMETER, or another result than this KIND");
        for (int size = 0; size <= 3; size++) {
            int n = size;
            given(() -> ofShape(INT, of(INT, n)));
            int g = n == 0 ? 1 : 2;
            bounded(n + " parameters of g", n == 1, g + 1, WRONG_TYPE, x -> x.filter(0, 0, g));
        }
        for (int kind : KINDS) {
            given(() -> {
                HandleMirror x = new HandleMirror();
                summing(x, shape(INT, INT));
                brought(x, kind, THING);
                return x;
            });
            bounded("result " + kind, kind == INT, 3, WRONG_TYPE, x -> x.filter(0, 0, 2));
        }
    }

    private static void filterFull() {
        promise(17, "another result than this KIND; FULL.");
        given(() -> handles(ofShape(LONG, of(INT, 2)), 59));
        answers("the 60th", 59, x -> x.filter(2, 1, 0));
        given(() -> handles(ofShape(LONG, of(INT, 2)), 60));
        refused("the 61st", FULL, x -> x.filter(2, 1, 0));
    }

    private static void filterRefused() {
        promise(17, "UNKNOWN: h, g; OUTSIDE: at");
        given(() -> ofShape(LONG, of(INT, 2)));
        unknown("h", (x, h) -> x.filter(h, 0, 0));
        unknown("g, outside", (x, g) -> x.filter(0, 1, g));
        refused("outside, wrong type", OUTSIDE, x -> x.filter(0, 1, 2));
        given(() -> handles(ofShape(LONG, of(INT, 2)), 60));
        unknown("h, full", (x, h) -> x.filter(h, -1, 2));
        refused("outside, wrong type, full", OUTSIDE, x -> x.filter(0, -1, 2));
        refused("wrong type, full", WRONG_TYPE, x -> x.filter(0, 0, 2));
    }

    // ---- 18

    /** The handle 0 is what g brings first for: (LONG, INT, THING) INT; then a handle of a shape. */
    private static HandleMirror folded(int result, int... parameters) {
        HandleMirror x = new HandleMirror();
        acting(x, 1, shape(INT, LONG, INT, THING));
        brought(x, result, parameters);
        return x;
    }

    private static void foldParameters() {
        promise(18, "g, worked with its PARAMETERS, brings h's first one; of h's others g's are the first ones");
        int[][] inside = {{}, {INT}, {INT, THING}};
        for (int[] parameters : inside) {
            HandleMirror x = folded(LONG, parameters);
            int g = x.count(2) - 1;
            due("folded", x.fold(0, g), g + 1);
            due("shape", x.shape(g + 1), shape(INT, INT, THING));
            ints(x, 10).give(THING, NONE);
            brings("worked", x, x.run(g + 1, true, INT), INT, 100);
        }
        int[][] outside = {{LONG}, {THING}, {THING, INT}, {INT, INT}, {INT, THING, INT}, {SHORT}, {INT, BASE}, {LONG, INT}};
        for (int[] parameters : outside) {
            given(() -> folded(LONG, parameters));
            refused("others", WRONG_TYPE, x -> x.fold(0, 2));
        }
        for (int kind : KINDS) {
            if (kind == NOTHING) continue;
            given(() -> folded(kind));
            bounded("g's result " + kind, kind == LONG, 2, WRONG_TYPE, x -> x.fold(0, 1));
        }
        given(() -> folded(LONG));
        refused("h has no first one", WRONG_TYPE, x -> x.fold(1, 1));
        HandleMirror x = ofShape(INT, of(INT, 6));
        due("six", x.shape(x.fold(2, 0)), shape(INT, of(INT, 5)));
    }

    private static void foldOthers() {
        promise(18, "PARAMETERS: h's others (all).");
        for (int of = 0; of < 6; of++) {
            HandleMirror x = new HandleMirror();
            int h = picking(x, 6, of);
            int g = picking(x, 5, 4);
            int folding = x.fold(h, g);
            brings("value " + of, ints(x, 1, 2, 3, 4, 5), x.run(folding, true, INT), INT, of == 0 ? 5 : of);
            HandleMirror y = new HandleMirror();
            h = picking(y, 6, of);
            g = y.as(picking(y, 6, 1), shape(NOTHING, of(INT, 6)));
            folding = y.fold(h, g);
            brings("value " + of + ", g brings nothing", ints(y, 1, 2, 3, 4, 5, 6), y.run(folding, true, INT), INT, of + 1);
        }
    }

    private static void foldNothing() {
        promise(18, "(g's result NOTHING: h's first ones). PARAMETERS: h's others (all).");
        int[][] inside = {{}, {LONG}, {LONG, INT}, {LONG, INT, THING}};
        for (int[] parameters : inside) {
            HandleMirror x = folded(NOTHING, parameters);
            int g = x.count(2) - 1;
            due("folded", x.fold(0, g), g + 1);
            due("shape", x.shape(g + 1), shape(INT, LONG, INT, THING));
        }
        int[][] outside = {{INT}, {INT, THING}, {LONG, LONG}, {LONG, INT, THING, THING}};
        for (int[] parameters : outside) {
            given(() -> folded(NOTHING, parameters));
            refused("others", WRONG_TYPE, x -> x.fold(0, 2));
        }
        HandleMirror x = folded(NOTHING);
        due("nothing and nothing", x.shape(x.fold(1, 1)), shape(NOTHING));
    }

    private static void foldFull() {
        promise(18, "KINDS are not so; FULL.");
        given(() -> handles(folded(LONG), 59));
        answers("the 60th", 59, x -> x.fold(0, 1));
        given(() -> handles(folded(LONG), 60));
        refused("the 61st", FULL, x -> x.fold(0, 1));
    }

    private static void foldRefused() {
        promise(18, "UNKNOWN: h, g; WRONG TYPE: KINDS are not so; FULL.");
        given(() -> folded(LONG));
        unknown("h", (x, h) -> x.fold(h, 1));
        unknown("g", (x, g) -> x.fold(0, g));
        given(() -> handles(folded(LONG), 60));
        unknown("h, full", (x, h) -> x.fold(h, 1));
        unknown("g, full", (x, g) -> x.fold(0, g));
        refused("wrong type, full", WRONG_TYPE, x -> x.fold(1, 0));
    }

    // ---- 19

    private static void afterResult() {
        promise(19, "g, worked with h's result (with none, if that is NOTHING).");
        int[][] parameters = {{}, {INT}, {LONG}, {SHORT}, {THING}, {INT, INT}};
        int[] results = {NOTHING, INT, LONG, THING};
        for (int[] g : parameters) {
            for (int result : results) {
                given(() -> {
                    HandleMirror x = new HandleMirror();
                    brought(x, result);
                    brought(x, FLOAT, g);
                    return x;
                });
                int last = g.length == 0 ? 1 : 2;
                boolean fits = result == NOTHING ? g.length == 0 : g.length == 1 && g[0] == result;
                bounded(result + " before " + g.length, fits, last + 1, WRONG_TYPE, x -> x.after(0, last));
                if (fits) answers("shape", shape(FLOAT), x -> x.shape(x.after(0, last)));
            }
        }
        HandleMirror x = ofShape(INT, of(THING, 6));
        due("six", x.shape(x.after(2, 0)), shape(INT, of(THING, 6)));
    }

    private static void afterFull() {
        promise(19, "WRONG TYPE; FULL.");
        given(() -> handles(ofShape(LONG), 59));
        answers("the 60th", 59, x -> x.after(0, 0));
        given(() -> handles(ofShape(LONG), 60));
        refused("the 61st", FULL, x -> x.after(0, 0));
    }

    private static void afterRefused() {
        promise(19, "UNKNOWN: h, g; WRONG TYPE; FULL.");
        given(() -> ofShape(LONG));
        unknown("h", (x, h) -> x.after(h, 0));
        unknown("g", (x, g) -> x.after(0, g));
        given(() -> handles(ofShape(LONG), 60));
        unknown("h, full", (x, h) -> x.after(h, 1));
        unknown("g, full", (x, g) -> x.after(1, g));
        refused("wrong type, full", WRONG_TYPE, x -> x.after(1, 0));
    }

    // ---- 20

    /** The handle 0 sums up two ints, 1 divides them; then a handle of a shape, the last. */
    private static HandleMirror guarded(int result, int... parameters) {
        HandleMirror x = new HandleMirror();
        summing(x, shape(INT, INT, INT));
        acting(x, 1, shape(INT, INT, INT));
        brought(x, result, parameters);
        return x;
    }

    private static int lastOf(int[] parameters) {
        return parameters.length == 0 ? 2 : 3;
    }

    private static void guardTruth() {
        promise(20, "If test tells true, h, else g.");
        HandleMirror x = new HandleMirror();
        summing(x, shape(INT, INT, INT));
        acting(x, 1, shape(INT, INT, INT));
        x.method(1, 0, STATIC, 0, shape(TRUTH, INT));
        int test = x.find(1, 1, 0, shape(TRUTH, INT), 0);
        int h = x.guard(test, 0, 1);
        brings("true", ints(x, 9, 0), x.run(h, true, INT), INT, 9);
        due("false", ints(x, 8, 0).run(h, true, INT), ZERO);
        takes("the test, and one of them", x, 3, 1, 0, 6);
        for (int kind : KINDS) {
            given(() -> guarded(kind));
            bounded("test's result " + kind, kind == TRUTH, 3, WRONG_TYPE, y -> y.guard(2, 0, 1));
        }
    }

    private static void guardValues() {
        promise(20, "If test tells true, h, else g.");
        for (int of = 0; of < 6; of++) {
            for (int truth = 0; truth <= 1; truth++) {
                HandleMirror x = new HandleMirror();
                int test = x.after(picking(x, 6, 5), summing(x, shape(TRUTH, INT)));
                int h = x.guard(test, picking(x, 6, of), picking(x, 6, 5 - of));
                brings("value " + of, ints(x, 1, 2, 3, 4, 5, 6 + truth), x.run(h, true, INT), INT, truth == 1 ? of + (of == 5 ? 2 : 1) : 6 - of);
            }
        }
    }

    private static void guardShapes() {
        promise(20, "WRONG TYPE: test's result is not TRUTH, its PARAMETERS are not h's first ones; h and g have not one SHAPE");
        int[][] tests = {{}, {INT}, {INT, INT}, {LONG}, {INT, LONG}, {INT, INT, INT}, {SHORT}};
        for (int[] parameters : tests) {
            given(() -> guarded(TRUTH, parameters));
            int last = lastOf(parameters);
            boolean fits = parameters.length <= 2 && shape(INT, parameters) == shape(INT, of(INT, parameters.length));
            bounded("test of " + parameters.length, fits, last + 1, WRONG_TYPE, x -> x.guard(last, 0, 1));
        }
        int[][] others = {{INT}, {INT, LONG}, {INT, INT, INT}, {}};
        for (int[] parameters : others) {
            given(() -> {
                HandleMirror x = guarded(INT, parameters);
                brought(x, TRUTH);
                return x;
            });
            int last = lastOf(parameters);
            refused("g of another shape", WRONG_TYPE, x -> x.guard(last + 1, 0, last));
            refused("h of another shape", WRONG_TYPE, x -> x.guard(last + 1, last, 0));
            answers("one shape", last + 2, x -> x.guard(last + 1, last, last));
        }
        given(() -> {
            HandleMirror x = guarded(LONG, INT, INT);
            brought(x, TRUTH);
            return x;
        });
        refused("another result", WRONG_TYPE, x -> x.guard(4, 0, 3));
    }

    private static void guardFull() {
        promise(20, "h and g have not one SHAPE; FULL.");
        given(() -> handles(guarded(TRUTH), 59));
        answers("the 60th", 59, x -> x.guard(2, 0, 1));
        given(() -> handles(guarded(TRUTH), 60));
        refused("the 61st", FULL, x -> x.guard(2, 0, 1));
    }

    private static void guardRefused() {
        promise(20, "UNKNOWN: test, h, g; WRONG TYPE");
        given(() -> guarded(TRUTH));
        unknown("test", (x, h) -> x.guard(h, 0, 1));
        unknown("h", (x, h) -> x.guard(2, h, 1));
        unknown("g", (x, h) -> x.guard(2, 0, h));
        unknown("g, wrong type", (x, h) -> x.guard(0, 0, h));
        given(() -> handles(guarded(TRUTH), 60));
        unknown("test, full", (x, h) -> x.guard(h, 0, 1));
        unknown("g, wrong type, full", (x, h) -> x.guard(0, 0, h));
        refused("wrong type, full", WRONG_TYPE, x -> x.guard(0, 0, 1));
    }

    // ---- 21

    private static void caughtFailures() {
        promise(21, "h; when it ends by a FAILURE (1 to 8; failure 0: any of them): g with its number, and h's first PARAMETERS.");
        given(() -> guarded(INT, INT));
        int[] failures = {LOWEST, -1, 0, 1, 2, 3, 4, 5, 6, 7, 8, 9, 10, HIGHEST};
        for (int failure : failures) bounded("failure " + failure, failure >= 0 && failure <= 8, 4, OUTSIDE, x -> x.caught(1, failure, 3));
        for (int failure = 0; failure <= 8; failure++) {
            HandleMirror x = guarded(INT);
            int caught = x.caught(1, failure, 0);
            boolean caughtHere = failure == 0 || failure == 6;
            due("zero, caught by " + failure, ints(x, 50, 0).run(caught, true, INT), caughtHere ? 1 : ZERO);
            if (caughtHere) due("its number and the first one", x.result(2), 6 + 50);
            brings("no failure", ints(x, 50, 2), x.run(caught, true, INT), INT, 25);
            takes("no failure", x, 2, 0, 0, 0);
        }
    }

    private static void caughtValues() {
        promise(21, "g with its number, and h's first PARAMETERS.");
        for (int size = 1; size <= 6; size++) {
            for (int of = 0; of < size; of++) {
                HandleMirror x = new HandleMirror();
                int raise = x.permute(acting(x, 4, shape(INT)), 0, shape(INT, of(INT, 6)));
                int h = x.caught(raise, 7, picking(x, size, of));
                brings("value " + of + " of " + size, ints(x, 10, 20, 30, 40, 50, 60), x.run(h, true, INT), INT, of == 0 ? 7 : 10 * of);
                takes("value " + of + " of " + size, x, 5, 1, 1, 0);
            }
        }
    }

    private static void caughtTypes() {
        promise(21, "WRONG TYPE: g's results, PARAMETERS are not so: INT, then h's first ones");
        int[][] handlers = {{INT}, {INT, INT}, {INT, INT, INT}, {}, {LONG}, {SHORT}, {BOX + INT}, {INT, LONG}, {INT, INT, INT, INT}, {INT, INT, LONG}};
        for (int i = 0; i < handlers.length; i++) {
            int[] parameters = handlers[i];
            given(() -> guarded(INT, parameters));
            int last = lastOf(parameters);
            bounded("handler " + i, i < 3, last + 1, WRONG_TYPE, x -> x.caught(1, 0, last));
        }
        for (int kind : KINDS) {
            given(() -> guarded(kind, INT));
            bounded("result " + kind, kind == INT, 4, WRONG_TYPE, x -> x.caught(1, 0, 3));
        }
        given(() -> {
            HandleMirror x = ofShape(INT, of(INT, 6));
            x.permute(0, 0, shape(INT, of(INT, 6)));
            return x;
        });
        answers("six of six", 4, x -> x.caught(2, 0, 3));
        given(() -> ofShape(INT));
        answers("h has no parameters", 2, x -> x.caught(1, 0, 0));
    }

    private static void caughtFull() {
        promise(21, "INT, then h's first ones; FULL.");
        given(() -> handles(guarded(LONG, INT), 59));
        answers("the 60th", 59, x -> x.caught(0, 8, 0));
        given(() -> handles(guarded(LONG, INT), 60));
        refused("the 61st", FULL, x -> x.caught(0, 8, 0));
    }

    private static void caughtRefused() {
        promise(21, "UNKNOWN: h, g; OUTSIDE: failure; WRONG TYPE");
        given(() -> guarded(LONG, INT));
        unknown("h", (x, h) -> x.caught(h, 0, 0));
        unknown("g, outside", (x, g) -> x.caught(0, 9, g));
        refused("outside, wrong type", OUTSIDE, x -> x.caught(0, 9, 3));
        given(() -> handles(guarded(LONG, INT), 60));
        unknown("h, outside, full", (x, h) -> x.caught(h, -1, 0));
        refused("outside, wrong type, full", OUTSIDE, x -> x.caught(0, -1, 3));
        refused("wrong type, full", WRONG_TYPE, x -> x.caught(0, 0, 3));
    }
}
