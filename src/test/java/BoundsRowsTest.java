/** Boundary cases of promises 22 to 30: rows spread and collected, elements, constants, sites, shapes. */
public final class BoundsRowsTest extends Bounds {
    private static final int ROWS = ROW + INT;
    private static final long BIG = 1L << 32;

    public static void main(String[] args) {
        spreadWorked();
        spreadValues();
        spreadTurned();
        spreadNone();
        spreadMisfit();
        spreadOutside();
        spreadSeven();
        spreadTypes();
        spreadRefused();
        spreadFull();
        collectWorked();
        collectOutside();
        collectTypes();
        collectRefused();
        collectFull();
        variedTypes();
        variedRefused();
        variedFull();
        elementShapes();
        elementNull();
        elementIndex();
        elementStore();
        elementNewRow();
        elementOutside();
        elementFull();
        constantLatest();
        constantRefused();
        sameKinds();
        sameFull();
        siteTarget();
        siteRefused();
        targetWas();
        targetNoSite();
        targetRefused();
        shapeUnknown();
        end("BoundsRowsTest", 22, 30);
    }

    /** The handle 0 has a shape and brings a member's number times 1000; there are no others. */
    private static HandleMirror ofShape(int result, int... parameters) {
        HandleMirror x = new HandleMirror();
        x.method(0, 0, STATIC, 0, shape(result, parameters));
        x.find(1, 0, 0, shape(result, parameters), 0);
        return x;
    }

    /** As ofShape(), for as many parameters as there may be; the handle is 1. */
    private static HandleMirror ofMany(int result, int... parameters) {
        HandleMirror x = ofShape(result);
        x.permute(0, 0, shape(result, parameters));
        return x;
    }

    /** A row of ints 1, 2 .. as a thing. */
    private static int rowOfInts(HandleMirror x, int n) {
        int row = x.row(ROWS, n);
        int set = x.element(1, ROWS);
        for (int i = 0; i < n; i++) {
            x.give(ROWS, row);
            ints(x, i, i + 1).run(set, true, NOTHING);
        }
        return row;
    }

    // ---- 22

    private static void spreadWorked() {
        promise(22, "h, whose last n PARAMETERS come out of a ROW of a KIND, each TURNED, in order.");
        for (int size = 0; size <= 6; size++) {
            for (int n = 0; n <= size; n++) {
                if (size - n == 6) continue;
                HandleMirror x = ofMany(INT, of(INT, size));
                int spread = x.spread(1, ROWS, n);
                int[] parameters = of(INT, size - n + 1);
                parameters[size - n] = ROWS;
                due(n + " of " + size, spread, 2);
                due("shape", x.shape(spread), shape(INT, parameters));
                int row = rowOfInts(x, n);
                for (int i = 0; i < size - n; i++) ints(x, 9);
                x.give(ROWS, row);
                due("worked", x.run(spread, true, INT), 1);
                due("steps", x.last(0), 3);
            }
        }
        HandleMirror x = new HandleMirror();
        int h = acting(x, 1, shape(INT, LONG, LONG));
        int spread = x.spread(h, ROWS, 2);
        x.give(ROWS, rowOfInts(x, 2));
        brings("1 by 2", x, x.run(spread, true, INT), INT, 0);
        int turned = x.permute(h, 1, shape(INT, LONG, LONG));
        x.give(ROWS, 0);
        brings("2 by 1", x, x.run(x.spread(turned, ROWS, 2), true, INT), INT, 2);
    }

    private static void spreadValues() {
        promise(22, "h, whose last n PARAMETERS come out of a ROW of a KIND");
        for (int n = 1; n <= 6; n++) {
            for (int of = 0; of < 6; of++) {
                HandleMirror x = new HandleMirror();
                int spread = x.spread(picking(x, 6, of), ROWS, n);
                int row = rowOfInts(x, n);
                for (int i = 0; i < 6 - n; i++) ints(x, 90 + i);
                x.give(ROWS, row);
                brings("value " + of + " with " + n + " spread", x, x.run(spread, true, INT), INT, of < 6 - n ? 90 + of : of - 5 + n);
            }
        }
    }

    private static void spreadTurned() {
        promise(22, "each TURNED, in order.");
        HandleMirror x = ofShape(INT, LEFT, RIGHT);
        int spread = x.spread(0, CLASS_ROW, 2);
        int row = x.row(CLASS_ROW, 2);
        x.give(CLASS_ROW, row);
        due("nones can be turned", x.run(spread, true, INT), NULL);
        due("and h is begun", x.last(0), 2);
        int set = x.element(1, CLASS_ROW);
        for (int i = 0; i < 2; i++) {
            x.give(CLASS_ROW, row);
            ints(x, i).give(BASE, x.object(3 + i, 4));
            x.run(set, true, NOTHING);
        }
        x.give(CLASS_ROW, row);
        brings("each of its class", x, x.run(spread, true, INT), INT, 8);
        x.give(CLASS_ROW, row);
        ints(x, 1).give(BASE, 1);
        x.run(set, true, NOTHING);
        x.give(CLASS_ROW, row);
        due("the last is not", x.run(spread, true, INT), CAST);
        takes("h is not begun", x, 1, 1, 0, 2);
    }

    private static void spreadNone() {
        promise(22, "Worked: NULL: NONE, and n is not 0");
        for (int n = 0; n <= 4; n++) {
            HandleMirror x = ofShape(INT, of(INT, 4));
            int spread = x.spread(0, ROWS, n);
            for (int i = n; i < 4; i++) ints(x, 1);
            x.give(ROWS, NONE);
            due("none for " + n, x.run(spread, true, INT), n == 0 ? 1 : NULL);
            due("steps", x.last(0), n == 0 ? 2 : 1);
        }
    }

    private static void spreadMisfit() {
        promise(22, "MISFIT: it has not n ELEMENTS.");
        for (int n = 0; n <= 3; n++) {
            for (int size = 0; size <= 8; size++) {
                HandleMirror x = ofShape(INT, of(INT, 3));
                int spread = x.spread(0, ROWS, n);
                for (int i = n; i < 3; i++) ints(x, 1);
                x.give(ROWS, x.row(ROWS, size));
                due(size + " for " + n, x.run(spread, true, INT), size == n ? 1 : MISFIT);
                due("ended by", x.last(3), size == n ? 0 : 8);
            }
        }
    }

    private static void spreadOutside() {
        promise(22, "OUTSIDE: the KIND is no ROW, n is not 0 .. as many as there are");
        int[] sizes = {LOWEST, -1, 0, 1, 2, 3, 4, 5, 6, HIGHEST};
        for (int size = 0; size <= 5; size++) {
            int own = size;
            given(() -> ofMany(INT, of(THING, own)));
            for (int n : sizes) bounded(n + " of " + own, n >= 0 && n <= own, 2, OUTSIDE, x -> x.spread(1, ROWS, n));
        }
        for (int kind = -1; kind <= 45; kind++) {
            int now = kind;
            bounded("kind " + kind, isRow(kind), 2, OUTSIDE, x -> x.spread(1, now, 1));
        }
    }

    private static void spreadSeven() {
        promise(22, "there would be 7");
        for (int size = 5; size <= 6; size++) {
            int own = size;
            given(() -> ofMany(INT, of(INT, own)));
            for (int n = 0; n <= own; n++) {
                int now = n;
                bounded(n + " of " + own, own - n < 6, 2, OUTSIDE, x -> x.spread(1, ROWS, now));
            }
        }
    }

    private static void spreadTypes() {
        promise(22, "there would be 7; WRONG TYPE; FULL.");
        given(() -> ofShape(INT, LONG, SHORT, THING, CHAR));
        refused("int to char", WRONG_TYPE, x -> x.spread(0, ROWS, 1));
        answers("char to char", 1, x -> x.spread(0, ROW + CHAR, 1));
        answers("char to thing", 1, x -> x.spread(0, ROW + CHAR, 2));
        refused("char to short", WRONG_TYPE, x -> x.spread(0, ROW + CHAR, 3));
        refused("a class to char", WRONG_TYPE, x -> x.spread(0, CLASS_ROW, 1));
        given(() -> ofShape(INT, INT, LONG, THING));
        answers("no more than the last", 1, x -> x.spread(0, CLASS_ROW, 1));
        refused("a class to long", WRONG_TYPE, x -> x.spread(0, CLASS_ROW, 2));
        answers("int to int, long, thing", 1, x -> x.spread(0, ROWS, 3));
        refused("long to int", WRONG_TYPE, x -> x.spread(0, ROW + LONG, 3));
        answers("none is to be turned", 1, x -> x.spread(0, ROW, 0));
    }

    private static void spreadFull() {
        promise(22, "WRONG TYPE; FULL.");
        given(() -> handles(ofShape(INT, CHAR), 59));
        answers("the 60th", 59, x -> x.spread(0, ROWS, 0));
        given(() -> handles(ofShape(INT, CHAR), 60));
        refused("the 61st", FULL, x -> x.spread(0, ROWS, 0));
    }

    private static void spreadRefused() {
        promise(22, "UNKNOWN; OUTSIDE: the KIND is no ROW");
        given(HandleMirror::new);
        unknown("of none", (x, h) -> x.spread(h, ROWS, 0));
        given(() -> handles(ofShape(INT, CHAR), 60));
        unknown("unknown, outside, full", (x, h) -> x.spread(h, INT, -1));
        refused("outside, wrong type, full", OUTSIDE, x -> x.spread(0, CLASS_ROW, 2));
        refused("wrong type, full", WRONG_TYPE, x -> x.spread(0, ROWS, 1));
    }

    // ---- 23

    private static void collectWorked() {
        promise(23, "h, whose last PARAMETER is a new ROW of a KIND with n PARAMETERS as ELEMENTS.");
        for (int n = 0; n <= 6; n++) {
            HandleMirror x = new HandleMirror();
            x.same(ROWS);
            int h = x.collect(0, ROWS, n);
            due("collected", h, 1);
            due("shape", x.shape(h), shape(ROWS, of(INT, n)));
            for (int i = 0; i < n; i++) ints(x, 10 + i);
            brings("worked", x, x.run(h, true, ROWS), ROWS, n);
            due("made", x.count(4), 1);
            x.keep();
            for (int i = 0; i < n; i++) due("element " + i, x.told(0, 2, i), 10 + i);
        }
        for (int of = 0; of < 3; of++) {
            HandleMirror others = new HandleMirror();
            int h = others.drop(picking(others, 3, of), 3, ROWS);
            int collecting = others.collect(h, ROWS, 3);
            brings("value " + of + " ahead of the row", ints(others, 7, 8, 9, 1, 2, 3), others.run(collecting, true, INT), INT, 7 + of);
        }
        HandleMirror x = ofMany(INT, INT, INT, ROWS);
        due("with others", x.shape(x.collect(1, ROWS, 4)), shape(INT, of(INT, 6)));
        due("with others, none", x.shape(x.collect(1, ROWS, 0)), shape(INT, of(INT, 2)));
    }

    private static void collectOutside() {
        promise(23, "OUTSIDE: the KIND is no ROW, n is below 0, n and the others of its PARAMETERS are more than 6");
        int[] sizes = {LOWEST, -1, 0, 1, 2, 3, 4, 5, 6, 7, 8, HIGHEST};
        for (int others = 0; others <= 5; others++) {
            int own = others;
            int[] parameters = of(LONG, own + 1);
            parameters[own] = THING;
            given(() -> ofMany(INT, parameters));
            for (int n : sizes) {
                boolean inside = n >= 0 && n <= 6 - own;
                bounded(n + " and " + own, inside, 2, OUTSIDE, x -> x.collect(1, ROWS, n));
            }
        }
        given(() -> ofMany(INT, THING));
        for (int kind = -1; kind <= 45; kind++) {
            int now = kind;
            bounded("kind " + kind, isRow(kind), 2, OUTSIDE, x -> x.collect(1, now, 1));
        }
    }

    private static void collectTypes() {
        promise(23, "WRONG TYPE: the ROW is not of the last PARAMETER's KIND (there is none)");
        String[] below = {"01234", "13", "24", "3", "4"};
        for (int last : KINDS) {
            if (last == NOTHING) continue;
            given(() -> ofShape(INT, ROWS, last));
            for (int row : KINDS) {
                if (!isRow(row)) continue;
                boolean classes = last >= CLASS_ROW && row >= CLASS_ROW && below[last - CLASS_ROW].indexOf('0' + row - CLASS_ROW) >= 0;
                bounded(row + " for " + last, last == THING || last == row || classes, 1, WRONG_TYPE, x -> x.collect(0, row, 2));
            }
        }
        given(() -> ofShape(INT));
        refused("there is none", WRONG_TYPE, x -> x.collect(0, ROWS, 0));
        refused("there is none, six", WRONG_TYPE, x -> x.collect(0, ROWS, 6));
    }

    private static void collectFull() {
        promise(23, "(there is none); FULL.");
        given(() -> handles(ofShape(INT, ROWS), 59));
        answers("the 60th", 59, x -> x.collect(0, ROWS, 6));
        given(() -> handles(ofShape(INT, ROWS), 60));
        refused("the 61st", FULL, x -> x.collect(0, ROWS, 6));
    }

    private static void collectRefused() {
        promise(23, "UNKNOWN; OUTSIDE: the KIND is no ROW, n is below 0");
        given(HandleMirror::new);
        unknown("of none", (x, h) -> x.collect(h, ROWS, 0));
        given(() -> handles(ofShape(INT, ROWS), 60));
        unknown("unknown, outside, full", (x, h) -> x.collect(h, INT, -1));
        refused("below 0, wrong type, full", OUTSIDE, x -> x.collect(0, ROW, -1));
        refused("above 6, wrong type, full", OUTSIDE, x -> x.collect(0, ROW, 7));
        refused("no row, wrong type, full", OUTSIDE, x -> x.collect(0, THING, 0));
        refused("wrong type, full", WRONG_TYPE, x -> x.collect(0, ROW, 6));
    }

    // ---- 24

    private static void variedTypes() {
        promise(24, "WRONG TYPE: its last PARAMETER is no ROW (there is none)");
        for (int last : KINDS) {
            if (last == NOTHING) continue;
            given(() -> ofShape(INT, ROWS, last));
            bounded("last " + last, isRow(last), 1, WRONG_TYPE, x -> x.varied(0));
            given(() -> ofShape(INT, last));
            bounded("only " + last, isRow(last), 1, WRONG_TYPE, x -> x.varied(0));
            if (isRow(last)) answers("its shape", shape(INT, last), x -> x.shape(x.varied(0)));
        }
        given(() -> ofShape(ROWS));
        refused("there is none", WRONG_TYPE, x -> x.varied(0));
        HandleMirror x = ofMany(INT, INT, INT, INT, INT, INT, ROWS);
        due("six", x.varied(1), 2);
        due("five and none", ints(x, 1, 2, 3, 4, 5).run(2, false, INT), 1);
        due("five and one", ints(x, 1, 2, 3, 4, 5, 6).run(2, false, INT), 1);
        due("four are too few", ints(x, 1, 2, 3, 4).run(2, false, INT), WRONG_TYPE);
        due("h is as it was", ints(x, 5).run(1, false, INT), WRONG_TYPE);
    }

    private static void variedFull() {
        promise(24, "(there is none); FULL.");
        given(() -> handles(ofShape(INT, ROWS), 59));
        answers("the 60th", 59, x -> x.varied(0));
        given(() -> handles(ofShape(INT, ROWS), 60));
        refused("the 61st", FULL, x -> x.varied(0));
    }

    private static void variedRefused() {
        promise(24, "h, VARIED. UNKNOWN; WRONG TYPE");
        given(HandleMirror::new);
        unknown("of none", (x, h) -> x.varied(h));
        given(() -> handles(ofShape(INT, ROWS), 60));
        unknown("unknown, full", (x, h) -> x.varied(h));
        refused("wrong type, full", WRONG_TYPE, x -> x.varied(1));
    }

    // ---- 25

    private static void elementShapes() {
        promise(25, "what = 0: (ROW, INT) the ELEMENT; 1: (ROW, INT, ELEMENT) NOTHING; 2: (ROW) INT, its length; 3: (INT) a new ROW.");
        for (int row : KINDS) {
            if (!isRow(row)) continue;
            int element = row >= CLASS_ROW ? row - 10 : row - ROW;
            long[] shapes = {shape(element, row, INT), shape(NOTHING, row, INT, element), shape(INT, row), shape(row, INT)};
            for (int what = 0; what < 4; what++) {
                HandleMirror x = new HandleMirror();
                due("element " + what + " of " + row, x.element(what, row), 0);
                due("its shape", x.shape(0), shapes[what]);
            }
        }
    }

    /** Handles on elements of a kind: 0 the element, 1 the setting one, 2 the length, 3 the new row. */
    private static HandleMirror elements(int row) {
        HandleMirror x = new HandleMirror();
        for (int what = 0; what < 4; what++) x.element(what, row);
        return x;
    }

    private static void elementNull() {
        promise(25, "Worked: NULL: NONE");
        int[] places = {LOWEST, -1, 0, HIGHEST};
        for (int place : places) {
            HandleMirror x = elements(CLASS_ROW);
            x.give(CLASS_ROW, NONE);
            due("the element " + place, ints(x, place).run(0, true, BASE), NULL);
            x.give(CLASS_ROW, NONE);
            ints(x, place).give(BASE, NONE);
            due("setting " + place, x.run(1, true, NOTHING), NULL);
        }
        HandleMirror x = elements(CLASS_ROW);
        x.give(CLASS_ROW, NONE);
        due("the length", x.run(2, true, INT), NULL);
        x.give(CLASS_ROW, x.row(CLASS_ROW + 3, 1));
        ints(x, 0);
        brings("an element that is none", x, x.run(0, true, BASE), NONE, 0);
    }

    private static void elementIndex() {
        promise(25, "NULL: NONE; INDEX");
        int[] places = {LOWEST, -1, 0, 1, 2, 7, 8, 9, HIGHEST};
        for (int size = 0; size <= 8; size += size == 1 ? 7 : 1) {
            for (int place : places) {
                boolean inside = place >= 0 && place < size;
                HandleMirror x = elements(ROWS);
                x.give(ROWS, x.row(ROWS, size));
                due(place + " of " + size, ints(x, place).run(0, true, INT), inside ? 1 : INDEX);
                x.give(ROWS, 0);
                due("setting " + place + " of " + size, ints(x, place, 7).run(1, true, NOTHING), inside ? 1 : INDEX);
                for (int i = 0; i < size; i++) due("element " + i, x.told(0, 2, i), i == place ? 7 : 0);
                x.give(ROWS, 0);
                brings("length", x, x.run(2, true, INT), INT, size);
            }
        }
    }

    private static void elementStore() {
        promise(25, "STORE (1)");
        String[] below = {"01234", "13", "24", "3", "4"};
        for (int row = 0; row < 5; row++) {
            for (int c = 0; c < 5; c++) {
                HandleMirror x = elements(CLASS_ROW);
                x.row(CLASS_ROW + row, 1);
                x.object(c, 0);
                boolean is = below[row].indexOf('0' + c) >= 0;
                x.give(CLASS_ROW, 0);
                ints(x, 0).give(BASE, 1);
                due(c + " into " + row, x.run(1, true, NOTHING), is ? 1 : STORE);
                due("the element", x.told(0, 2, 0), is ? 1 : NONE);
                x.give(CLASS_ROW, 0);
                ints(x, 1).give(BASE, 1);
                due("index ahead of store", x.run(1, true, NOTHING), INDEX);
                x.give(CLASS_ROW, 0);
                ints(x, 0).give(BASE, NONE);
                due("none into " + row, x.run(1, true, NOTHING), 1);
                due("the element is none", x.told(0, 2, 0), NONE);
            }
        }
    }

    private static void elementNewRow() {
        promise(25, "SIZE, MISFIT: above 8 (3).");
        int[] sizes = {LOWEST, -2, -1, 0, 1, 7, 8, 9, 10, HIGHEST};
        for (int row : KINDS) {
            if (!isRow(row)) continue;
            for (int n : sizes) {
                HandleMirror x = elements(row);
                int answer = ints(x, n).run(3, true, row);
                due("new row of " + n, answer, n < 0 ? SIZE : n > 8 ? MISFIT : 1);
                due("made", x.count(4), answer == 1 ? 1 : 0);
                if (answer == 1) brings("new row of " + n, x, answer, row, n);
            }
        }
    }

    private static void elementOutside() {
        promise(25, "OUTSIDE; FULL.");
        int[] whats = {LOWEST, -1, 0, 1, 2, 3, 4, HIGHEST};
        for (int what : whats) {
            given(HandleMirror::new);
            bounded("what " + what, what >= 0 && what <= 3, 0, OUTSIDE, x -> x.element(what, ROWS));
            refused("what " + what + " of no row", OUTSIDE, x -> x.element(what, THING));
            given(() -> handles(new HandleMirror(), 60));
            refused("what " + what + ", full", what >= 0 && what <= 3 ? FULL : OUTSIDE, x -> x.element(what, ROWS));
        }
        refused("no row, full", OUTSIDE, x -> x.element(0, 28));
    }

    private static void elementFull() {
        promise(25, "FULL.");
        given(() -> handles(new HandleMirror(), 59));
        for (int what = 0; what < 4; what++) {
            int now = what;
            answers("the 60th", 59, x -> x.element(now, CLASS_ROW + 4));
        }
    }

    // ---- 26

    private static void constantLatest() {
        promise(26, "What brings the latest of ARGS (which goes), of its KIND, without PARAMETERS.");
        for (int n = 1; n <= 6; n++) {
            HandleMirror x = new HandleMirror();
            for (int i = 1; i <= n; i++) x.arg(LONG, BIG + i);
            for (int i = n; i >= 1; i--) {
                int h = x.constant();
                due("the latest went", x.count(3), i - 1);
                due("shape", x.shape(h), shape(LONG));
            }
            due("none is left", x.constant(), STATE);
            for (int i = n; i >= 1; i--) brings("constant " + i, x, x.run(n - i, true, LONG), LONG, BIG + i);
        }
        for (int kind : KINDS) {
            if (!isReference(kind)) continue;
            HandleMirror x = new HandleMirror();
            x.give(kind, NONE);
            due("none as " + kind, x.shape(x.constant()), shape(kind));
        }
    }

    private static void constantRefused() {
        promise(26, "STATE: no ARGS; FULL.");
        refused("no args", STATE, HandleMirror::constant);
        given(() -> handles(new HandleMirror(), 60));
        refused("no args, full", STATE, HandleMirror::constant);
        given(() -> ints(handles(new HandleMirror(), 60), 1));
        refused("the 61st", FULL, HandleMirror::constant);
        given(() -> ints(handles(new HandleMirror(), 59), 1));
        answers("the 60th", 59, HandleMirror::constant);
    }

    // ---- 27

    private static void sameKinds() {
        promise(27, "OUTSIDE: the KIND (NOTHING, too)");
        for (int kind = -1; kind <= 45; kind++) {
            int now = kind;
            boolean inside = isKind(kind) && kind != NOTHING;
            given(HandleMirror::new);
            bounded("kind " + kind, inside, 0, OUTSIDE, x -> x.same(now));
            if (inside) answers("its shape", shape(kind, kind), x -> x.shape(x.same(now)));
            given(() -> handles(new HandleMirror(), 60));
            refused("kind " + kind + ", full", inside ? FULL : OUTSIDE, x -> x.same(now));
        }
    }

    private static void sameFull() {
        promise(27, "(NOTHING, too); FULL.");
        given(() -> handles(new HandleMirror(), 59));
        answers("the 60th", 59, x -> x.same(44));
    }

    // ---- 28

    private static void siteTarget() {
        promise(28, "A SITE with h as its TARGET: a HANDLE that works what its TARGET is then.");
        HandleMirror x = new HandleMirror();
        int first = summing(x, shape(INT));
        int second = summing(x, shape(INT));
        int s = x.site(first);
        int bound = x.after(s, x.same(INT));
        brings("its first target", x, x.run(bound, true, INT), INT, 0);
        due("set anew", x.target(s, second), first);
        brings("what it is then", x, x.run(bound, true, INT), INT, 1000);
        due("a site on a site", x.target(s, x.site(first)), second);
        brings("by way of two", x, x.run(s, true, INT), INT, 0);
        takes("by way of two", x, 3, 0, 0, 0);
        x.target(s, s);
        due("itself", x.run(s, true, INT), SPENT);
        takes("itself", x, 200, 1, 0, 9);
    }

    private static void siteRefused() {
        promise(28, "UNKNOWN; FULL.");
        given(HandleMirror::new);
        unknown("of none", (x, h) -> x.site(h));
        given(() -> handles(new HandleMirror(), 60));
        unknown("unknown, full", (x, h) -> x.site(h));
        refused("the 61st", FULL, x -> x.site(0));
        given(() -> handles(new HandleMirror(), 59));
        answers("the 60th", 59, x -> x.site(58));
    }

    // ---- 29

    /** Handles 0, 1 of (INT) INT, 2 of (INT) LONG, 3 of (LONG) INT, 4 of () INT; the site 5 on 0, the site 6 on 2. */
    private static HandleMirror sites() {
        HandleMirror x = new HandleMirror();
        x.same(INT);
        x.same(INT);
        x.as(0, shape(LONG, INT));
        summing(x, shape(INT, LONG));
        summing(x, shape(INT));
        x.site(0);
        x.site(2);
        return x;
    }

    private static void targetWas() {
        promise(29, "The TARGET of a SITE becomes h: the number of what it was.");
        HandleMirror x = sites();
        due("at first", x.target(5, 1), 0);
        due("then", x.target(5, 1), 1);
        due("refused", x.target(5, 2), WRONG_TYPE);
        due("refused again", x.target(5, 7), UNKNOWN);
        due("still", x.target(5, 5), 1);
        due("itself", x.target(5, 0), 5);
        due("another site", x.target(6, 2), 2);
        handles(x, 60);
        due("full", x.target(5, 59), 0);
        due("the last one", x.target(5, 0), 59);
    }

    private static void targetNoSite() {
        promise(29, "OUTSIDE: s is no SITE");
        HandleMirror x = ofShape(ROWS, ROWS);
        x.method(0, 1, 0, 0, shape(INT));
        x.maker(0, 0, shape(NOTHING));
        x.field(0, 1, 0, INT);
        for (int how = 0; how <= 5; how++) {
            if (how != 1) x.find(how, 0, 1, shape(how == 3 ? NOTHING : INT), 0);
        }
        int truth = x.permute(summing(x, shape(TRUTH)), 0, shape(TRUTH, ROWS));
        int two = x.drop(0, 1, ROWS);
        x.as(0, shape(THING, ROWS));
        x.permute(0, 0, shape(ROWS, ROWS));
        x.filter(0, 0, 0);
        x.fold(two, 0);
        x.after(0, 0);
        x.guard(truth, 0, 0);
        x.caught(0, 0, x.permute(0, 1, shape(ROWS, INT, ROWS)));
        x.spread(0, ROWS, 0);
        x.collect(0, ROWS, 1);
        x.varied(0);
        for (int what = 0; what <= 3; what++) x.element(what, ROWS);
        x.same(ROWS);
        x.give(ROWS, NONE);
        x.bind(0, 0);
        x.give(ROWS, NONE);
        x.constant();
        int none = x.count(2);
        for (int h = 0; h < none; h++) due("handle " + h, x.target(h, h), OUTSIDE);
        due("a site", x.target(x.site(0), 0), 0);
        due("handles of all kinds but sites", none, 27);
    }

    private static void targetRefused() {
        promise(29, "UNKNOWN: s, h; OUTSIDE: s is no SITE; WRONG TYPE: not of one SHAPE.");
        given(HandleMirror::new);
        unknown("of none", (x, s) -> x.target(s, 0));
        given(BoundsRowsTest::sites);
        unknown("s", (x, s) -> x.target(s, 0));
        unknown("h", (x, h) -> x.target(5, h));
        unknown("h, no site", (x, h) -> x.target(0, h));
        for (int s = 0; s <= 4; s++) {
            int none = s;
            refused("no site " + s, OUTSIDE, x -> x.target(none, 0));
            refused("no site " + s + ", another shape", OUTSIDE, x -> x.target(none, none == 4 ? 0 : 4));
        }
        refused("another result", WRONG_TYPE, x -> x.target(5, 2));
        refused("another parameter", WRONG_TYPE, x -> x.target(5, 3));
        refused("no parameter", WRONG_TYPE, x -> x.target(5, 4));
        refused("a site of another shape", WRONG_TYPE, x -> x.target(5, 6));
        answers("of one shape", 0, x -> x.target(5, 1));
    }

    // ---- 30

    private static void shapeUnknown() {
        promise(30, "Its SHAPE; UNKNOWN.");
        given(HandleMirror::new);
        unknown("of none", (x, h) -> x.shape(h));
        given(() -> handles(new HandleMirror(), 60));
        unknown("of 60", (x, h) -> x.shape(h));
        answers("the last", shape(INT, INT), x -> x.shape(59));
        given(() -> ofMany(CLASS_ROW + 4, of(CLASS_ROW + 4, 6)));
        answers("the largest", 0x2d2d2d2d2d2d2dL, x -> x.shape(1));
        given(() -> ofShape(TRUTH));
        answers("the smallest", 1, x -> x.shape(0));
    }
}
