/** Boundary cases of the terms, part 3: handles, steps, failures, what is made, turned and adapted, refusals. */
public final class BoundsStepsTest extends Bounds {
    public static void main(String[] args) {
        mostHandles();
        the201stStep();
        the201stStepOfEachKind();
        the200thWithinAllOthers();
        spentEndsTheRun();
        failuresCaught();
        fullEndsTheRun();
        the8000thMade();
        madeByRunsAndBind();
        turnedByWidening();
        turnedToABox();
        turnedOutOfABox();
        turnedFromThingAndNumber();
        turnedIfSuchABox();
        turnedBetweenReferences();
        turnedFromNothing();
        turnedToNothing();
        adaptedAsMany();
        adaptedInOrder();
        variedAsItIs();
        variedCollected();
        variedSteps();
        itself();
        refusalsInOrder();
        refusalsAsFailures();
        Check.end("BoundsStepsTest");
    }

    /** Handles for each call that makes one: 0 (INT) INT, 1 (ROW) ROW, 2 (TRUTH) TRUTH, 3 (INT, INT) INT. */
    private static HandleMirror few() {
        HandleMirror x = new HandleMirror();
        x.method(0, 0, STATIC, 0, shape(INT, INT));
        x.find(1, 0, 0, shape(INT, INT), 0);
        x.same(ROW + INT);
        x.same(TRUTH);
        x.drop(0, 1, INT);
        return ints(x, 1);
    }

    private static void eachHandle(boolean inside, int number) {
        bounded("find", inside, number, FULL, x -> x.find(1, 0, 0, shape(INT, INT), 0));
        bounded("as", inside, number, FULL, x -> x.as(0, shape(LONG, INT)));
        bounded("bind", inside, number, FULL, x -> x.bind(0, 0));
        bounded("drop", inside, number, FULL, x -> x.drop(0, 0, INT));
        bounded("permute", inside, number, FULL, x -> x.permute(0, 0, shape(INT, INT)));
        bounded("filter", inside, number, FULL, x -> x.filter(0, 0, 0));
        bounded("fold", inside, number, FULL, x -> x.fold(3, 0));
        bounded("after", inside, number, FULL, x -> x.after(0, 0));
        bounded("guard", inside, number, FULL, x -> x.guard(2, 2, 2));
        bounded("caught", inside, number, FULL, x -> x.caught(0, 0, 0));
        bounded("spread", inside, number, FULL, x -> x.spread(0, ROW + INT, 1));
        bounded("collect", inside, number, FULL, x -> x.collect(1, ROW + INT, 1));
        bounded("varied", inside, number, FULL, x -> x.varied(1));
        bounded("element", inside, number, FULL, x -> x.element(0, ROW + INT));
        bounded("constant", inside, number, FULL, HandleMirror::constant);
        bounded("same", inside, number, FULL, x -> x.same(INT));
        bounded("site", inside, number, FULL, x -> x.site(0));
    }

    private static void mostHandles() {
        sentence("Terms", "HANDLES (60 at most, numbered as they come) have a SHAPE.");
        given(BoundsStepsTest::few);
        eachHandle(true, 4);
        given(() -> handles(few(), 59));
        eachHandle(true, 59);
        given(() -> handles(few(), 60));
        eachHandle(false, 60);
        answers("handles", 60, x -> x.count(2));
        answers("the 60th has a shape", shape(INT, INT), x -> x.shape(59));
        answers("the 61st has none", UNKNOWN, x -> x.shape(60));
        answers("what is itself needs no number", 0, x -> x.as(0, shape(INT, INT)));
        answers("a run needs none", 1, x -> x.run(0, false, LONG));
        answers("direct needs none", 1, x -> x.direct(0, LONG));
    }

    private static void the201stStep() {
        sentence("Terms", "Each that is begun (also within another one, also an ADAPTED one) is a STEP; the 201st in a RUN: SPENT.");
        int[] all = {1, 2, 199, 200, 201, 202, 255, 400};
        for (int steps : all) {
            HandleMirror x = new HandleMirror();
            int h = stepping(x, steps);
            ints(x, 42);
            if (steps <= 200) brings(steps + " steps", x, x.run(h, true, INT), INT, 42);
            else due(steps + " steps", x.run(h, true, INT), SPENT);
            boolean spent = steps > 200;
            takes(steps + " steps", x, Math.min(steps, 200), spent ? 1 : 0, 0, spent ? 9 : 0);
            ints(x, 42);
            due("a later run begins anew", x.run(stepping(x, 5), true, INT), 1);
            due("its steps", x.last(0), 5);
        }
        for (int steps = 199; steps <= 200; steps++) {
            HandleMirror x = new HandleMirror();
            int h = stepping(x, steps);
            ints(x, 42);
            due("adapted, with " + steps + " more", x.run(h, false, LONG), steps < 200 ? 1 : SPENT);
            due("its steps", x.last(0), 200);
        }
    }

    /** A handle that works h, of (INT) INT, and takes 1 to 5 steps beside those of h. */
    private static int around(HandleMirror x, int what, int h) {
        switch (what) {
            case 0: return x.as(h, shape(LONG, INT));
            case 1: return x.permute(h, 0, shape(INT, INT));
            case 2: return x.filter(h, 0, x.same(INT));
            case 3: return x.after(h, x.same(INT));
            case 4: return x.guard(x.permute(summing(x, shape(TRUTH)), 0, shape(TRUTH, INT)), h, h);
            case 5: return x.caught(x.after(h, acting(x, 4, shape(INT, INT))), 7, x.permute(x.same(INT), 0, shape(INT, INT, INT)));
            case 6: return x.fold(x.drop(h, 0, INT), x.same(INT));
            default: return x.varied(x.spread(h, ROW + INT, 1));
        }
    }

    private static void the201stStepOfEachKind() {
        sentence("Terms", "the 201st in a RUN: SPENT.");
        int[] own = {1, 1, 2, 2, 3, 5, 3, 2};
        for (int what = 0; what <= 7; what++) {
            for (int over = 0; over <= 1; over++) {
                HandleMirror x = new HandleMirror();
                int h = around(x, what, stepping(x, 200 - own[what] + over));
                int result = (int) (x.shape(h) & 255) - 1;
                if (what == 7) x.give(ROW + INT, x.row(ROW + INT, 1));
                else ints(x, 7);
                due("kind " + what + ", over by " + over, x.run(h, true, result), over == 0 ? 1 : SPENT);
                due("its steps", x.last(0), 200);
            }
        }
    }

    /**
     * A handle of six THINGS that works itself in a circle of 39 steps, each time with its values one place on, till a
     * value comes to a place where a LEFT is asked for and is none. That is its 197th step, in which all others stand open.
     */
    private static int circling(HandleMirror x, int place, int around) {
        int[] kinds = of(THING, 6);
        long things = shape(NOTHING, kinds);
        kinds[place] = LEFT;
        int circle = x.site(x.permute(summing(x, shape(NOTHING)), 0, things));
        int on = circle;
        for (int i = 0; i < 35; i++) on = x.site(on);
        int asking = x.as(x.as(x.permute(on, 54321, things), shape(NOTHING, kinds)), things);
        x.target(circle, asking);
        int h = circle;
        for (int i = 0; i < around; i++) h = x.site(h);
        return h;
    }

    private static void fiveLeftOneRight(HandleMirror x, int right) {
        for (int i = 0; i < 6; i++) x.give(THING, x.object(i == right ? 2 : 1, i));
    }

    private static void the200thWithinAllOthers() {
        sentence("Terms", "WORKED with a VALUE of each PARAMETER's KIND");
        for (int place = 0; place < 6; place++) {
            for (int around = 2; around <= 4; around++) {
                HandleMirror x = new HandleMirror();
                int h = circling(x, place, around);
                fiveLeftOneRight(x, (place + 5) % 6);
                due("place " + place + ", within " + around, x.run(h, true, NOTHING), around <= 3 ? CAST : SPENT);
                takes("within " + around, x, Math.min(197 + around, 200), 1, 0, around <= 3 ? 2 : 9);
            }
            for (int around = 1; around <= 2; around++) {
                HandleMirror x = new HandleMirror();
                int h = x.caught(circling(x, place, around), 2, summing(x, shape(NOTHING, INT)));
                fiveLeftOneRight(x, (place + 5) % 6);
                due("caught, within " + around, x.run(h, true, NOTHING), around == 1 ? 1 : SPENT);
                takes("caught, within " + around, x, 200, around, 1, around == 1 ? 0 : 9);
            }
        }
    }

    private static void spentEndsTheRun() {
        sentence("Terms", "9 SPENT, 10 FULL (there were MADE, by RUNS and bind(), 8000 BOXES, ROWS, OBJECTS already; what would be one more): these end the RUN.");
        for (int failure = 0; failure <= 8; failure++) {
            HandleMirror x = new HandleMirror();
            int h = stepping(x, 250);
            int safe = x.permute(x.same(INT), 0, shape(INT, INT, INT));
            int caught = x.caught(x.caught(h, failure, safe), 0, safe);
            ints(x, 1);
            due("spent, to be caught by " + failure, x.run(caught, true, INT), SPENT);
            takes("spent", x, 200, 1, 0, 9);
            due("counted", x.count(19), 1);
        }
    }

    /** A handle without parameters that brings INT, but fails so. */
    private static int failing(HandleMirror x, int failure) {
        switch (failure) {
            case 1:
                x.give(THING, NONE);
                return x.bind(summing(x, shape(INT, THING)), 0);
            case 2:
                x.give(THING, x.object(2, 0));
                return x.bind(x.as(summing(x, shape(INT, LEFT)), shape(INT, THING)), 0);
            case 3:
                x.give(ROW + INT, x.row(ROW + INT, 0));
                int first = x.bind(x.element(0, ROW + INT), 0);
                return x.bind(first, bindable(x, 0));
            case 4:
                x.give(CLASS_ROW, x.row(CLASS_ROW + 1, 1));
                int row = x.bind(x.element(1, CLASS_ROW), 0);
                int place = x.bind(row, bindable(x, 0));
                x.give(BASE, x.object(0, 0));
                return x.as(x.bind(place, 0), shape(INT));
            case 5: return x.after(x.bind(x.element(3, ROW + INT), bindable(x, -1)), x.element(2, ROW + INT));
            case 6:
                int divided = x.bind(acting(x, 1, shape(INT, INT, INT)), bindable(x, 1));
                return x.bind(divided, bindable(x, 0));
            case 7: return acting(x, 4, shape(INT));
            default: return x.after(x.bind(x.element(3, ROW + INT), bindable(x, 9)), x.element(2, ROW + INT));
        }
    }

    /** The place 0, for which an int has come behind the args. */
    private static int bindable(HandleMirror x, int value) {
        x.arg(INT, value);
        return 0;
    }

    private static void failuresCaught() {
        sentence("Terms", "FAILURES: 1 NULL, 2 CAST, 3 INDEX, 4 STORE, 5 SIZE, 6 ZERO, 7 RAISED, 8 MISFIT; these a HANDLE may CATCH");
        for (int failure = 1; failure <= 8; failure++) {
            for (int of = 0; of <= 8; of++) {
                HandleMirror x = new HandleMirror();
                int h = failing(x, failure);
                due("failure " + failure, x.run(h, true, INT), -failure);
                due("counted", x.count(10 + failure), 1);
                int caught = x.caught(h, of, x.same(INT));
                boolean matches = of == 0 || of == failure;
                due(failure + " caught by " + of, x.run(caught, true, INT), matches ? 1 : -failure);
                if (matches) due("its number", x.result(2), failure);
                due("failures", x.last(1), 1);
                due("caught", x.last(2), matches ? 1 : 0);
                due("ended by", x.last(3), matches ? 0 : failure);
                due("counted, caught or not", x.count(10 + failure), 2);
            }
        }
    }

    private static void fullEndsTheRun() {
        sentence("Terms", "what would be one more): these end the RUN.");
        HandleMirror x = made(new HandleMirror(), MOST_MADE);
        int boxing = x.as(x.same(THING), shape(THING, INT));
        for (int failure = 0; failure <= 8; failure++) {
            int caught = x.caught(boxing, failure, boxing);
            ints(x, 1);
            due("full, to be caught by " + failure, x.run(caught, true, THING), NO_ROOM);
            takes("full", x, 2, 1, 0, 10);
        }
        due("counted", x.count(20), 9);
    }

    private static void the8000thMade() {
        sentence("Terms", "10 FULL (there were MADE, by RUNS and bind(), 8000 BOXES, ROWS, OBJECTS already; what would be one more)");
        for (int what = 0; what <= 6; what++) {
            HandleMirror x = made(new HandleMirror(), MOST_MADE - 1);
            due("made", x.count(4), 7999);
            due("kind " + what + " as the 8000th", makesOne(x, what), 1);
            due("made", x.count(4), 8000);
            due("no failure yet", x.count(20), 0);
            due("kind " + what + " as the 8001st", makesOne(x, what), NO_ROOM);
            due("made", x.count(4), 8000);
            takes("as the 8001st", x, x.last(0), 1, 0, 10);
            due("one failure", x.count(20), 1);
        }
        HandleMirror x = made(new HandleMirror(), MOST_MADE);
        due("an object of object() is none of these", x.object(0, 0) >= 0 ? 1 : 0, 1);
        due("nor is a row of row()", x.row(24, 8) >= 0 ? 1 : 0, 1);
        x.same(BOX + INT);
        due("nor is a box of arg()", x.arg(BOX + INT, 4), 1);
        due("it can be brought", x.run(x.count(2) - 1, true, BOX + INT), 1);
        due("keep() makes none", x.keep() >= 0 ? 1 : 0, 1);
        ints(x, 1);
        due("plain ones are none", x.run(x.same(INT), false, LONG), 1);
        ints(x, -1);
        due("what cannot be is told first", x.run(x.element(3, 24), true, 24), SIZE);
        ints(x, 9);
        due("what cannot be is told first", x.run(x.element(3, 24), true, 24), MISFIT);
    }

    /** A run that makes one box, row or object. */
    private static int makesOne(HandleMirror x, int what) {
        switch (what) {
            case 0: return ints(x, 1).run(x.same(THING), false, THING);
            case 1: return ints(x, 8).run(x.element(3, CLASS_ROW), true, CLASS_ROW);
            case 2: return x.run(x.collect(x.same(ROW + INT), ROW + INT, 0), true, ROW + INT);
            case 3: return x.run(x.varied(x.same(ROW + INT)), false, ROW + INT);
            case 4:
                x.maker(0, 0, shape(NOTHING));
                return x.run(x.find(3, 0, 0, shape(NOTHING), 0), true, BASE);
            case 5: return x.run(summing(x, shape(FAR)), true, FAR);
            default: return ints(x, 1).run(x.same(INT), false, NUMBER);
        }
    }

    private static void madeByRunsAndBind() {
        sentence("Terms", "there were MADE, by RUNS and bind(), 8000");
        HandleMirror x = made(new HandleMirror(), MOST_MADE - 1);
        x.same(THING);
        int h = x.count(2) - 1;
        ints(x, 1);
        due("bind makes the 8000th", x.bind(h, 0), h + 1);
        due("made", x.count(4), 8000);
        ints(x, 1);
        due("a run", x.run(h, false, THING), NO_ROOM);
        given(() -> {
            HandleMirror full = made(new HandleMirror(), MOST_MADE);
            full.same(THING);
            return ints(full, 1);
        });
        refused("bind makes none more", NO_ROOM, y -> y.bind(y.count(2) - 1, 0));
    }

    private static boolean isNumberBox(int plain) {
        return plain != TRUTH && plain != CHAR;
    }

    private static boolean widens(int from, int to) {
        int[][] all = {{}, {2, 4, 5, 6, 7}, {4, 5, 6, 7}, {4, 5, 6, 7}, {5, 6, 7}, {6, 7}, {7}, {}};
        for (int other : all[from]) {
            if (other == to) return true;
        }
        return from == to;
    }

    private static HandleMirror same(int kind) {
        HandleMirror x = new HandleMirror();
        x.same(kind);
        return x;
    }

    private static void turnedByWidening() {
        sentence("Terms", "f PLAIN, t PLAIN: by WIDENING (or as it is).");
        for (int f = 0; f < 8; f++) {
            for (int t = 0; t < 8; t++) {
                int from = f;
                int to = t;
                given(() -> same(to));
                bounded("parameter " + f + " to " + t, widens(f, t), f == t ? 0 : 1, WRONG_TYPE, x -> x.as(0, shape(to, from)));
                given(() -> same(from));
                bounded("result " + f + " to " + t, widens(f, t), f == t ? 0 : 1, WRONG_TYPE, x -> x.as(0, shape(to, from)));
            }
        }
    }

    private static void turnedToABox() {
        sentence("Terms", "f PLAIN, t a REFERENCE: its BOX is MADE, if that IS t.");
        for (int f = 0; f < 8; f++) {
            int from = f;
            for (int to : KINDS) {
                if (!isReference(to)) continue;
                given(() -> same(to));
                boolean can = to == THING || to == BOX + from || to == NUMBER && isNumberBox(from);
                bounded(from + " to " + to, can, 1, WRONG_TYPE, x -> x.as(0, shape(to, from)));
                if (!can) continue;
                HandleMirror x = same(to);
                x.arg(from, 1);
                brings(from + " as " + to, x, x.run(0, false, to), BOX + from, 1);
                due("made", x.count(4), 1);
            }
        }
    }

    private static void turnedOutOfABox() {
        sentence("Terms", "f a REFERENCE, t PLAIN: f a BOX of t or of what widens to t");
        for (int t = 0; t < 8; t++) {
            int to = t;
            given(() -> same(to));
            for (int from : KINDS) {
                if (!isReference(from) || from == THING || from == NUMBER) continue;
                boolean can = from < NUMBER && widens(from - BOX, to);
                bounded(from + " to " + to, can, 1, WRONG_TYPE, x -> x.as(0, shape(to, from)));
                if (!can) continue;
                HandleMirror x = same(to);
                x.give(from, NONE);
                due("none of " + from + " to " + to, x.run(0, false, to), NULL);
            }
        }
    }

    private static void turnedFromThingAndNumber() {
        sentence("Terms", "or THING, NUMBER (not to TRUTH, CHAR)");
        for (int t = 0; t < 8; t++) {
            int to = t;
            given(() -> same(to));
            bounded("number to " + to, isNumberBox(to), 1, WRONG_TYPE, x -> x.as(0, shape(to, NUMBER)));
            if (isNumberBox(to)) answers("thing to " + to, 1, x -> x.as(0, shape(to, THING)));
        }
    }

    private static void turnedIfSuchABox() {
        sentence("Terms", "the VALUE has to be such a BOX: NULL: it is NONE; CAST; then WIDENING.");
        for (int to = 0; to < 8; to++) {
            if (!isNumberBox(to)) continue;
            for (int kind = THING; kind <= NUMBER; kind += NUMBER - THING) {
                for (int held = 0; held < 8; held++) {
                    if (kind == NUMBER && !isNumberBox(held)) continue;
                    HandleMirror x = boxNumbered(held);
                    int h = x.same(to);
                    x.give(kind, 0);
                    due("box of " + held + " as " + kind + " to " + to, x.run(h, false, to), widens(held, to) ? 1 : CAST);
                }
                HandleMirror x = same(to);
                x.give(kind, NONE);
                due("none as " + kind + " to " + to, x.run(0, false, to), NULL);
            }
            HandleMirror x = same(to);
            x.give(THING, x.object(0, 1));
            due("an object to " + to, x.run(0, false, to), CAST);
            x.give(THING, x.row(ROW + to, 1));
            due("a row to " + to, x.run(0, false, to), CAST);
        }
    }

    private static HandleMirror boxNumbered(int plain) {
        HandleMirror x = new HandleMirror();
        x.arg(BOX + plain, 0);
        x.constant();
        x.run(0, true, BOX + plain);
        x.keep();
        return x;
    }

    private static void turnedBetweenReferences() {
        sentence("Terms", "Both REFERENCES: always; CAST: the VALUE (not NONE) is not of t.");
        for (int from : KINDS) {
            for (int to : KINDS) {
                if (!isReference(from) || !isReference(to)) continue;
                HandleMirror x = same(to);
                due(from + " to " + to, x.as(0, shape(to, from)), from == to ? 0 : 1);
                x.give(from, NONE);
                due("none of " + from + " to " + to, x.run(0, false, to), 1);
            }
        }
        int[] classes = {BASE, LEFT, RIGHT, LAST, FAR};
        String[] below = {"01234", "13", "24", "3", "4"};
        for (int to : classes) {
            for (int c = 0; c < 5; c++) {
                HandleMirror x = same(to);
                x.give(THING, x.object(c, 0));
                boolean is = below[to - BASE].indexOf('0' + c) >= 0;
                due("an object of " + c + " to " + to, x.run(0, false, to), is ? 1 : CAST);
                x = same(to + 10);
                x.give(THING, x.row(CLASS_ROW + c, 1));
                due("a row of " + c + " to " + (to + 10), x.run(0, false, to + 10), is ? 1 : CAST);
            }
        }
    }

    private static void turnedFromNothing() {
        sentence("Terms", "f NOTHING: 0 (false), NONE.");
        for (int kind : KINDS) {
            HandleMirror x = new HandleMirror();
            int h = summing(x, shape(NOTHING));
            brings("nothing to " + kind, x, x.run(h, false, kind), isReference(kind) ? NONE : kind, 0);
        }
    }

    private static void turnedToNothing() {
        sentence("Terms", "t NOTHING: none. Otherwise it cannot be.");
        for (int kind : KINDS) {
            HandleMirror x = new HandleMirror();
            int h = summing(x, shape(kind));
            brings(kind + " to nothing", x, x.run(h, false, NOTHING), NOTHING, 0);
        }
    }

    private static void adaptedAsMany() {
        sentence("Terms", "ADAPTED: another SHAPE with as many PARAMETERS");
        for (int own = 0; own <= 6; own++) {
            int size = own;
            given(() -> {
                HandleMirror x = new HandleMirror();
                x.permute(summing(x, shape(INT)), 0, shape(INT, of(LONG, size)));
                return x;
            });
            for (int asked = 0; asked <= 6; asked++) {
                long shape = shape(LONG, of(INT, asked));
                bounded(own + " as " + asked, own == asked, 2, WRONG_TYPE, x -> x.as(1, shape));
            }
        }
    }

    private static void adaptedInOrder() {
        sentence("Terms", "each is TURNED, in order, to the HANDLE's, then its result to the SHAPE's; WRONG TYPE, if one cannot be.");
        HandleMirror x = new HandleMirror();
        int h = x.as(summing(x, shape(INT, INT, LEFT)), shape(INT, THING, THING));
        x.give(THING, NONE);
        x.give(THING, x.object(2, 0));
        due("null first", x.run(h, true, INT), NULL);
        x.give(THING, 0);
        x.give(THING, 0);
        due("cast first", x.run(h, true, INT), CAST);
        takes("the handle is not begun", x, 1, 1, 0, 2);
        x.method(0, 15, 0, 6, shape(THING, INT));
        x.give(BASE, x.object(0, 5));
        ints(x, 9);
        due("the result cannot be", x.direct(1, LEFT), CAST);
        due("the act is done", x.told(1, 1, 0), 9);
        takes("the handle is begun", x, 2, 1, 0, 2);
        given(() -> {
            HandleMirror y = new HandleMirror();
            summing(y, shape(INT, INT, INT));
            return y;
        });
        refused("the first cannot be", WRONG_TYPE, y -> y.as(0, shape(INT, LONG, INT)));
        refused("the last cannot be", WRONG_TYPE, y -> y.as(0, shape(INT, INT, LONG)));
        refused("the result cannot be", WRONG_TYPE, y -> y.as(0, shape(SHORT, INT, INT)));
    }

    private static HandleMirror variedOf(int... parameters) {
        HandleMirror x = new HandleMirror();
        long shape = shape(INT, parameters);
        x.method(0, 0, STATIC | VARIED, 0, shape);
        x.find(1, 0, 0, shape, 0);
        return x;
    }

    private static void variedAsItIs() {
        sentence("Terms", "A VARIED HANDLE that is to be ADAPTED: as it is, if there are as many, and the SHAPE's last one can be TURNED to its last one");
        HandleMirror x = variedOf(INT, ROW + INT);
        x.row(ROW + INT, 8);
        ints(x, 1);
        x.give(ROW + INT, 0);
        brings("the row itself", x, x.run(0, false, INT), INT, 9);
        takes("adapted, itself", x, 2, 0, 0, 0);
        due("no row is made", x.count(4), 0);
        ints(x, 1);
        x.give(THING, 0);
        brings("the row as a thing", x, x.run(0, false, INT), INT, 9);
        ints(x, 1);
        x.give(THING, NONE);
        due("none is no row to sum up", x.run(0, false, INT), NULL);
        due("no row is made", x.count(4), 0);
        ints(x, 1, 1);
        brings("one is collected", x, x.run(0, false, INT), INT, 2);
        due("a row is made", x.count(4), 1);
    }

    private static void variedCollected() {
        sentence("Terms", "else with its last PARAMETER collected (as by collect()) to as many as there are (WRONG TYPE, if there are not so many ahead of it), and that is ADAPTED.");
        for (int ahead = 0; ahead <= 3; ahead++) {
            int[] own = of(INT, ahead + 1);
            own[ahead] = ROW + INT;
            given(() -> variedOf(own));
            for (int size = 0; size <= 6; size++) {
                int n = size;
                int others = ahead;
                bounded(n + " with " + ahead + " ahead", n >= ahead, 1, WRONG_TYPE, x -> x.as(0, shape(INT, of(INT, n))));
                answers(n + " args with " + ahead + " ahead", n >= ahead ? 1 : WRONG_TYPE, x -> withArgs(x, n).run(0, false, INT));
                if (n < ahead) continue;
                HandleMirror x = withArgs(variedOf(own), n);
                x.run(0, false, INT);
                due("the sum", x.result(2), others * (others - 1) / 2 + n - others);
            }
            refused("an element that cannot be", WRONG_TYPE, x -> x.as(0, shape(INT, of(LONG, 4))));
        }
    }

    private static void variedSteps() {
        sentence("Terms", "(An ADAPTED HANDLE is a STEP, the collecting one another, also if nothing is to be TURNED");
        HandleMirror x = variedOf(ROW + INT);
        ints(x, 1, 2).run(0, false, INT);
        takes("collected", x, 3, 0, 0, 0);
        x.run(0, false, INT);
        takes("none collected", x, 3, 0, 0, 0);
        x.give(ROW + INT, x.row(ROW + INT, 2));
        x.run(0, false, INT);
        takes("its own shape", x, 2, 0, 0, 0);
        x.give(ROW + INT, 0);
        x.run(0, true, INT);
        takes("exactly", x, 1, 0, 0, 0);
        due("as() of its own shape", x.as(0, shape(INT, ROW + INT)), 1);
    }

    private static void itself() {
        sentence("Terms", "but one that is not VARIED and has that SHAPE is itself.)");
        HandleMirror x = same(INT);
        due("as", x.as(0, shape(INT, INT)), 0);
        due("no handle more", x.count(2), 1);
        ints(x, 1).run(0, false, INT);
        takes("one step", x, 1, 0, 0, 0);
        ints(x, 1).run(0, false, LONG);
        takes("another shape", x, 2, 0, 0, 0);
    }

    /** 60 handles, among them 0 (INT) INT and a site, 1; 60 things; 24 members; 6 args. */
    private static HandleMirror crowded() {
        HandleMirror x = members(things(10), 24);
        x.same(INT);
        x.site(0);
        for (int i = 0; i < 50; i++) x.row(ROW, 0);
        return ints(handles(x, 60), 1, 2, 3, 4, 5, 6);
    }

    private static void refusalsInOrder() {
        sentence("Terms", "Refusals, of several the first as told by each call: UNKNOWN, OUTSIDE, STATE, WRONG TYPE and others as told, FULL: they change nothing.");
        HandleMirror x = crowded();
        HandleMirror y = crowded();
        long[] got = {x.as(60, 0), x.as(0, 0), x.as(0, shape(INT)), x.as(0, shape(LONG, INT)),
            x.give(INT, 60), x.give(INT, 0), x.give(LEFT, 0), x.method(5, 0, 0, 0, 0), x.method(4, 15, 0, 0, shape(DOUBLE, DOUBLE, BYTE)),
            x.method(4, 0, 0, 0, shape(INT)), x.bind(60, 1), x.bind(0, 1), x.bind(0, 0), x.caught(60, 9, 0), x.caught(0, 9, 1), x.caught(0, 8, 3),
            x.target(60, 0), x.target(0, 1), x.run(60, true, 99), x.run(0, true, 99), x.run(0, true, INT), x.object(5, 0), x.object(0, 0)};
        long[] want = {UNKNOWN, OUTSIDE, WRONG_TYPE, FULL, UNKNOWN, OUTSIDE, FULL, OUTSIDE, STATE, FULL, UNKNOWN, OUTSIDE, FULL,
            UNKNOWN, OUTSIDE, FULL, UNKNOWN, OUTSIDE, UNKNOWN, OUTSIDE, WRONG_TYPE, OUTSIDE, FULL};
        for (int i = 0; i < got.length; i++) due("refusal " + i, got[i], want[i]);
        String before = counts(y);
        due("nothing is changed", counts(x).equals(before) ? 1 : 0, 1);
        due("the args are there", x.forget(), 6);
    }

    private static String counts(HandleMirror x) {
        StringBuilder text = new StringBuilder();
        for (int what = 0; what <= 20; what++) text.append(x.count(what)).append(' ');
        for (int what = 0; what <= 3; what++) text.append(x.last(what)).append(' ');
        for (int what = 0; what <= 2; what++) text.append(x.result(what)).append(' ');
        for (int h = 0; h < 60; h++) text.append(x.shape(h)).append(' ');
        for (int thing = 0; thing < 60; thing++) text.append(x.told(thing, 0, 0)).append(' ').append(x.told(thing, 1, 0)).append(' ');
        return text.toString();
    }

    private static void refusalsAsFailures() {
        sentence("Terms", "(What is told as minus a FAILURE likewise, but of RUNS.)");
        given(() -> {
            HandleMirror x = same(INT);
            x.same(LEFT);
            x.give(THING, x.object(0, 1));
            return x;
        });
        refused("a row", SIZE, x -> x.row(24, -1));
        refused("a thing given", CAST, x -> x.give(LEFT, 0));
        refused("bound to a plain one", CAST, x -> x.bind(0, 0));
        refused("bound to a class", CAST, x -> x.bind(1, 0));
        HandleMirror x = same(INT);
        x.give(THING, NONE);
        due("a run that ends by a failure", x.run(0, false, INT), NULL);
        due("has taken the args", x.count(3), 0);
        due("and counts", x.count(11), 1);
    }
}
