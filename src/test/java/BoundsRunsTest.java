/** Boundary cases of promises 31 to 36: runs, and what is told of them. */
public final class BoundsRunsTest extends Bounds {
    public static void main(String[] args) {
        runEmptiesArgs();
        runExactly();
        runAdapted();
        runRefused();
        run4000Failures();
        runMoreThan4000Failures();
        runRefusedCallsAreNoFailures();
        runWrongTypeLast();
        directUnknown();
        directOfEachSort();
        directAsRun();
        resultAtFirst();
        resultOfTheLatest();
        resultOfKinds();
        resultOutside();
        keepNoneSuch();
        keepOnce();
        keepFull();
        lastOfTheLatest();
        lastSteps();
        lastFailures();
        lastOutside();
        countThings();
        countMade();
        countFailures();
        countOutside();
        end("BoundsRunsTest", 31, 36);
    }

    /** The handle 0 divides two ints. */
    private static HandleMirror dividing() {
        HandleMirror x = new HandleMirror();
        acting(x, 1, shape(INT, INT, INT));
        return x;
    }

    // ---- 31

    private static void runEmptiesArgs() {
        promise(31, "A RUN of a HANDLE with ARGS (which are emptied), for a result of a KIND: 1, or minus the FAILURE that ended it.");
        for (int n = 0; n <= 6; n++) {
            HandleMirror x = new HandleMirror();
            int h = x.permute(summing(x, shape(INT)), 0, shape(INT, of(INT, n)));
            due(n + " args", withArgs(x, n).run(h, true, INT), 1);
            due("are emptied", x.count(3), 0);
            int raise = x.permute(acting(x, 4, shape(INT)), 0, shape(INT, of(INT, n)));
            due(n + " args", withArgs(x, n).run(raise, true, INT), RAISED);
            due("are emptied by a failure", x.forget(), 0);
        }
    }

    private static void runExactly() {
        promise(31, "Exactly: WRONG TYPE, if KINDS of ARGS and this one are not its SHAPE's.");
        given(() -> ints(dividing(), 42, 6));
        answers("its shape's", 1, x -> x.run(0, true, INT));
        refused("a wider result", WRONG_TYPE, x -> x.run(0, true, LONG));
        refused("no result", WRONG_TYPE, x -> x.run(0, true, NOTHING));
        refused("a box as result", WRONG_TYPE, x -> x.run(0, true, BOX + INT));
        given(() -> ints(dividing(), 42));
        refused("too few", WRONG_TYPE, x -> x.run(0, true, INT));
        given(() -> ints(dividing(), 42, 6, 1));
        refused("too many", WRONG_TYPE, x -> x.run(0, true, INT));
        given(BoundsRunsTest::dividing);
        refused("none", WRONG_TYPE, x -> x.run(0, true, INT));
        int[] others = {TRUTH, SHORT, LONG, BOX + INT};
        for (int kind : others) {
            given(() -> {
                HandleMirror x = ints(dividing(), 42);
                x.arg(kind, 6);
                return x;
            });
            refused("an arg of " + kind, WRONG_TYPE, x -> x.run(0, true, INT));
        }
        given(() -> {
            HandleMirror x = things(1);
            x.same(THING);
            x.give(BASE, 0);
            return x;
        });
        refused("what is a thing, but as of another kind", WRONG_TYPE, x -> x.run(0, true, THING));
        refused("both of another kind", WRONG_TYPE, x -> x.run(0, true, BASE));
    }

    private static void runAdapted() {
        promise(31, "Else as by what as() makes of it for them.");
        HandleMirror x = dividing();
        brings("itself", ints(x, 42, 6), x.run(0, false, INT), INT, 7);
        takes("itself", x, 1, 0, 0, 0);
        x.arg(SHORT, 42);
        x.arg(BOX + BYTE, 6);
        brings("adapted", x, x.run(0, false, DOUBLE), DOUBLE, Double.doubleToRawLongBits(7));
        takes("adapted", x, 2, 0, 0, 0);
        due("no handle came", x.count(2), 1);
        given(() -> {
            HandleMirror y = ints(dividing(), 42);
            y.arg(LONG, 6);
            return y;
        });
        refused("cannot be", WRONG_TYPE, y -> y.run(0, false, INT));
        given(() -> ints(dividing(), 42));
        refused("too few", WRONG_TYPE, y -> y.run(0, false, INT));
        given(() -> ints(dividing(), 42, 6, 1));
        refused("too many", WRONG_TYPE, y -> y.run(0, false, INT));
        given(() -> ints(dividing(), 42, 6));
        refused("a narrower result", WRONG_TYPE, y -> y.run(0, false, SHORT));
        given(() -> ints(handles(dividing(), 60), 42, 6));
        answers("adapted when handles are full", 1, y -> y.run(0, false, LONG));
    }

    private static void runRefused() {
        promise(31, "UNKNOWN; OUTSIDE: the KIND; STATE");
        int[] kinds = {LOWEST, -1, 19, 28, 29, 35, 39, 45, 256 + 4, HIGHEST};
        given(HandleMirror::new);
        unknown("of none", (x, h) -> x.run(h, true, INT));
        given(() -> ints(dividing(), 1, 0));
        unknown("unknown, outside", (x, h) -> x.run(h, true, 19));
        unknown("unknown, not exactly", (x, h) -> x.run(h, false, INT));
        for (int kind : kinds) {
            refused("exactly for " + kind, OUTSIDE, x -> x.run(0, true, kind));
            refused("for " + kind, OUTSIDE, x -> x.run(0, false, kind));
        }
    }

    /** As dividing(), with failures that came before; the handle on them is 1. */
    private static HandleMirror failed(int n) {
        return ints(failures(dividing(), n), 42, 6);
    }

    private static void run4000Failures() {
        promise(31, "STATE: 4000 FAILURES or more came (CAUGHT or not");
        given(() -> failed(3999));
        answers("failures", 3999, x -> x.count(17));
        answers("a run after 3999", 1, x -> x.run(0, true, INT));
        answers("direct after 3999", 1, x -> x.direct(0, INT));
        given(() -> failed(4000));
        answers("failures", 4000, x -> x.count(17));
        refused("a run after 4000", STATE, x -> x.run(0, true, INT));
        refused("not exactly", STATE, x -> x.run(0, false, INT));
        refused("direct after 4000", STATE, x -> x.direct(0, INT));
        unknown("unknown after 4000", (x, h) -> x.run(h, true, 19));
        refused("outside after 4000", OUTSIDE, x -> x.run(0, true, 19));
        refused("direct outside after 4000", OUTSIDE, x -> x.direct(0, 19));
        given(() -> {
            HandleMirror x = failed(3999);
            x.forget();
            ints(x, 1, 0).run(0, true, INT);
            return ints(x, 42, 6);
        });
        answers("the 4000th is of another number", 1, x -> x.count(16));
        refused("a run after it", STATE, x -> x.run(0, true, INT));
    }

    private static void runMoreThan4000Failures() {
        promise(31, "4000 FAILURES or more came");
        HandleMirror x = failures(new HandleMirror(), 3999);
        int many = x.count(2) - 1;
        due("a run with 32", x.run(many, true, NOTHING), 1);
        due("failures", x.count(17), 4031);
        due("the next", x.run(many, true, NOTHING), STATE);
        due("direct", x.direct(0, NOTHING), STATE);
        takes("the latest run", x, 127, 32, 32, 0);
    }

    private static void runRefusedCallsAreNoFailures() {
        promise(31, "those of refused calls are none)");
        given(() -> {
            HandleMirror x = failed(3999);
            for (int i = 0; i < 5; i++) {
                x.row(24, -1);
                x.bind(0, 9);
                x.run(0, true, LONG);
            }
            x.forget();
            x.give(THING, NONE);
            x.bind(0, 0);
            x.forget();
            x.arg(LONG, 1);
            x.bind(0, 0);
            x.give(LEFT, x.object(0, 0));
            x.forget();
            return ints(x, 42, 6);
        });
        for (int failure = 1; failure <= 10; failure++) {
            int f = failure;
            answers("failures " + failure, failure == 7 ? 3999 : 0, x -> x.count(10 + f));
        }
        answers("a run", 1, x -> x.run(0, true, INT));
    }

    private static void runWrongTypeLast() {
        promise(31, "those of refused calls are none); WRONG TYPE.");
        given(() -> failed(4000));
        refused("state, wrong type exactly", STATE, x -> x.run(0, true, LONG));
        refused("state, wrong type", STATE, x -> x.run(0, false, BASE));
        given(() -> failed(3999));
        refused("wrong type exactly", WRONG_TYPE, x -> x.run(0, true, LONG));
        refused("wrong type", WRONG_TYPE, x -> x.run(0, false, BASE));
    }

    // ---- 32

    private static void directUnknown() {
        promise(32, "UNKNOWN: m; else as run().");
        for (int n = 0; n <= 24; n += n == 1 ? 23 : 1) {
            int now = n;
            given(() -> {
                HandleMirror x = new HandleMirror();
                x.object(4, 1);
                members(x, now);
                x.give(FAR, 0);
                x.arg(DOUBLE, 0);
                x.arg(BYTE, 0);
                return x;
            });
            int[] numbers = {LOWEST, -1, n, n + 1, 24, HIGHEST};
            for (int m : numbers) {
                refused(m + " of " + n, UNKNOWN, x -> x.direct(m, DOUBLE));
                refused(m + " of " + n + ", outside", UNKNOWN, x -> x.direct(m, 19));
            }
            if (n == 0) continue;
            answers("the first of " + n, 1, x -> x.direct(0, DOUBLE));
            refused("the first, outside", OUTSIDE, x -> x.direct(0, 19));
        }
    }

    private static void directOfEachSort() {
        promise(32, "not exactly, of what find() gives the MEMBER's own CLASS of it: VIRTUAL, STATIC, MAKER, GETTER.");
        HandleMirror x = new HandleMirror();
        x.method(1, 0, PRIVATE, 0, shape(INT));
        x.method(1, 1, PRIVATE | STATIC, 0, shape(INT));
        x.maker(1, PRIVATE, shape(NOTHING));
        x.field(1, 0, PRIVATE, INT);
        x.field(1, 1, PRIVATE | STATIC | FINAL, INT);
        x.method(1, 2, 0, 0, shape(INT));
        x.method(3, 2, 0, 0, shape(INT));
        x.nest(1, 4);
        x.object(1, 3);
        x.object(3, 5);
        x.object(0, 7);
        x.give(LEFT, 0);
        brings("virtual", x, x.direct(0, INT), INT, 3);
        brings("static", x, x.direct(1, INT), INT, 1000);
        brings("maker", x, x.direct(2, LEFT), LEFT, 0);
        x.give(LEFT, 0);
        brings("getter", x, x.direct(3, INT), INT, 0);
        brings("static getter", x, x.direct(4, INT), INT, 4);
        x.give(LEFT, 1);
        brings("the receiver's own", x, x.direct(5, INT), INT, 6005);
        takes("exactly", x, 1, 0, 0, 0);
        x.give(THING, 1);
        brings("adapted", x, x.direct(5, LONG), LONG, 6005);
        takes("adapted", x, 2, 0, 0, 0);
        x.give(BASE, 2);
        due("not of the class", x.direct(5, INT), CAST);
        due("no handles came", x.count(2), 0);
    }

    private static void directAsRun() {
        promise(32, "else as run().");
        given(() -> ints(dividing(), 42, 0));
        int[] kinds = {LOWEST, -1, 19, 28, 45, HIGHEST};
        for (int kind : kinds) refused("for " + kind, OUTSIDE, x -> x.direct(0, kind));
        refused("a narrower result", WRONG_TYPE, x -> x.direct(0, SHORT));
        answers("a failure", ZERO, x -> x.direct(0, INT));
        given(() -> ints(dividing(), 42));
        refused("too few", WRONG_TYPE, x -> x.direct(0, INT));
        HandleMirror x = ints(dividing(), 42, 0);
        x.direct(0, INT);
        due("args are emptied", x.count(3), 0);
        takes("a failure", x, 1, 1, 0, 6);
    }

    // ---- 33

    private static void resultAtFirst() {
        promise(33, "STATE: there was none; OUTSIDE.");
        int[] whats = {LOWEST, -1, 0, 1, 2, 3, HIGHEST};
        for (int what : whats) {
            given(HandleMirror::new);
            refused("no run yet " + what, STATE, x -> x.result(what));
            given(() -> {
                HandleMirror x = ints(dividing(), 1, 0);
                x.run(0, true, INT);
                return x;
            });
            refused("a failure alone " + what, STATE, x -> x.result(what));
        }
    }

    private static void resultOfTheLatest() {
        promise(33, "Of the latest RUN that brought something (1)");
        HandleMirror x = dividing();
        ints(x, 42, 6).run(0, true, INT);
        ints(x, 42, 0);
        due("a failure", x.run(0, true, INT), ZERO);
        brings("the one before", x, 1, INT, 7);
        ints(x, 42, 0);
        due("refused", x.run(0, true, LONG), WRONG_TYPE);
        brings("the one before still", x, 1, INT, 7);
        x.forget();
        brings("another", ints(x, 9, 3), x.run(0, false, LONG), LONG, 3);
        ints(x, 9, 3).run(0, false, NOTHING);
        due("nothing is brought, too", x.result(0), NOTHING);
    }

    private static void resultOfKinds() {
        promise(33, "what = 0 the KIND that was asked for; 1 that of the VALUE itself (PLAIN: the same; NONE: -1; NOTHING: 8); 2 its bits, TAG, length (0 else).");
        for (int kind : KINDS) {
            HandleMirror x = new HandleMirror();
            int h = summing(x, shape(NOTHING));
            brings("empty " + kind, x, x.run(h, false, kind), isReference(kind) ? NONE : kind, 0);
            due("asked for " + kind, x.result(0), kind);
        }
        HandleMirror x = new HandleMirror();
        int h = x.same(THING);
        x.object(3, LOWEST);
        x.row(44, 8);
        x.row(20, 0);
        int[] kinds = {LAST, 44, 20};
        long[] bits = {LOWEST, 8, 0};
        for (int thing = 0; thing < 3; thing++) {
            x.give(THING, thing);
            brings("thing " + thing, x, x.run(h, true, THING), kinds[thing], bits[thing]);
            due("asked for", x.result(0), THING);
        }
        x.arg(BOX + LONG, Long.MIN_VALUE);
        brings("a box", x, x.run(h, false, NUMBER), BOX + LONG, Long.MIN_VALUE);
        due("asked for", x.result(0), NUMBER);
        x.arg(FLOAT, 0x80000000L);
        brings("a float", x, x.run(x.same(FLOAT), true, FLOAT), FLOAT, LOWEST);
    }

    private static void resultOutside() {
        promise(33, "OUTSIDE.");
        given(() -> {
            HandleMirror x = ints(dividing(), 42, 6);
            x.run(0, true, INT);
            return x;
        });
        long[] want = {INT, INT, 7};
        int[] whats = {LOWEST, -1, 0, 1, 2, 3, HIGHEST};
        for (int what : whats) {
            boolean inside = what >= 0 && what <= 2;
            bounded("what " + what, inside, inside ? want[what] : 0, OUTSIDE, x -> x.result(what));
        }
    }

    // ---- 34

    /** The handle 0 brings what it is given; a run has brought something as of a kind. */
    private static HandleMirror brought(int things, int thing, int kind) {
        HandleMirror x = things(things);
        x.same(THING);
        if (thing >= NONE) x.give(THING, thing);
        else x.arg(BOX + INT, 5);
        x.run(0, false, kind);
        return x;
    }

    private static void keepNoneSuch() {
        promise(34, "STATE: there is none such (NONE, too)");
        given(HandleMirror::new);
        refused("no run yet", STATE, HandleMirror::keep);
        given(() -> brought(1, NONE, THING));
        refused("none", STATE, HandleMirror::keep);
        given(() -> brought(1, 0, NOTHING));
        refused("nothing", STATE, HandleMirror::keep);
        given(() -> brought(1, -2, INT));
        refused("plain", STATE, HandleMirror::keep);
        given(() -> brought(60, NONE, THING));
        refused("none, full", STATE, HandleMirror::keep);
        given(() -> brought(60, -2, INT));
        refused("plain, full", STATE, HandleMirror::keep);
        given(() -> {
            HandleMirror x = ints(dividing(), 1, 0);
            x.run(0, true, INT);
            return x;
        });
        refused("a failure alone", STATE, HandleMirror::keep);
        given(() -> {
            HandleMirror x = brought(1, -2, THING);
            x.give(THING, 0);
            x.run(0, false, LEFT);
            return x;
        });
        answers("a failure behind one", 1, HandleMirror::keep);
    }

    private static void keepOnce() {
        promise(34, "What result() tells of, a REFERENCE, is named: the THING's number, which it may have already.");
        HandleMirror x = brought(2, -2, THING);
        due("named", x.keep(), 2);
        due("it has one already", x.keep(), 2);
        due("things", x.count(0), 3);
        due("its kind", x.told(2, 0, 0), BOX + INT);
        due("its bits", x.told(2, 1, 0), 5);
        x.give(THING, 1);
        x.run(0, true, THING);
        due("an object that has one", x.keep(), 1);
        x.give(NUMBER, 2);
        x.run(0, false, NUMBER);
        due("the box again", x.keep(), 2);
        x.give(THING, 0);
        x.run(0, true, THING);
        due("the first thing", x.keep(), 0);
        due("no thing more", x.count(0), 3);
        int maker = summing(x, shape(LEFT));
        x.run(maker, true, LEFT);
        due("an object that was made", x.keep(), 3);
        x.give(BASE, 3);
        brings("it can be given", x, x.run(0, false, LEFT), LEFT, 0);
        due("and has its number", x.keep(), 3);
    }

    private static void keepFull() {
        promise(34, "(NONE, too); FULL.");
        given(() -> brought(59, -2, THING));
        answers("the 60th", 59, HandleMirror::keep);
        given(() -> brought(60, -2, THING));
        refused("the 61st", FULL, HandleMirror::keep);
        given(() -> brought(60, 59, THING));
        answers("it has one already, full", 59, HandleMirror::keep);
    }

    // ---- 35

    private static void lastOfTheLatest() {
        promise(35, "Of the latest RUN");
        HandleMirror x = ints(dividing(), 1, 0);
        x.run(0, false, LONG);
        takes("a failure", x, 2, 1, 0, 6);
        x.run(0, true, INT);
        x.direct(0, 19);
        x.run(9, true, INT);
        x.bind(0, 9);
        takes("refused ones are none", x, 2, 1, 0, 6);
        ints(x, 4, 2).run(0, true, INT);
        takes("one that brings something", x, 1, 0, 0, 0);
        ints(x, 4, 2).direct(0, LONG);
        takes("direct", x, 2, 0, 0, 0);
    }

    private static void lastSteps() {
        promise(35, "0 STEPS (200 at most)");
        int[] all = {1, 199, 200, 201, 300};
        for (int steps : all) {
            HandleMirror x = new HandleMirror();
            int h = stepping(x, steps);
            ints(x, 1).run(h, true, INT);
            due(steps + " steps", x.last(0), Math.min(steps, 200));
            due("ended by", x.last(3), steps > 200 ? 9 : 0);
        }
    }

    private static void lastFailures() {
        promise(35, "1 FAILURES in it, 2 those CAUGHT, 3 the FAILURE that ended it (0).");
        HandleMirror x = new HandleMirror();
        int raise = acting(x, 4, shape(INT));
        int one = x.caught(raise, 7, x.same(INT));
        x.run(one, true, INT);
        takes("one caught", x, 3, 1, 1, 0);
        int again = x.caught(raise, 7, acting(x, 4, shape(INT, INT)));
        due("caught, and another", x.run(again, true, INT), RAISED);
        takes("caught, and another", x, 3, 2, 1, 7);
        int outer = x.caught(again, 0, x.same(INT));
        due("both caught", x.run(outer, true, INT), 1);
        takes("both caught", x, 5, 2, 2, 0);
        x.run(raise, true, INT);
        takes("not caught", x, 1, 1, 0, 7);
        due("ever", x.count(17), 6);
        HandleMirror most = failures(new HandleMirror(), 0);
        int many = most.count(2) - 1;
        int more = most.after(many, many);
        due("more than there are steps for", most.run(more, true, NOTHING), SPENT);
        takes("more than there are steps for", most, 200, 50, 49, 9);
    }

    private static void lastOutside() {
        promise(35, "OUTSIDE.");
        int[] whats = {LOWEST, -1, 0, 1, 2, 3, 4, HIGHEST};
        for (int what : whats) {
            boolean inside = what >= 0 && what <= 3;
            given(() -> {
                HandleMirror x = ints(dividing(), 1, 0);
                x.run(0, true, INT);
                return x;
            });
            bounded("what " + what, inside, what == 3 ? 6 : what == 2 ? 0 : 1, OUTSIDE, x -> x.last(what));
            given(HandleMirror::new);
            if (!inside) refused("no run yet, what " + what, OUTSIDE, x -> x.last(what));
        }
    }

    // ---- 36

    private static void countThings() {
        promise(36, "How many: 0 THINGS, 1 MEMBERS, 2 HANDLES, 3 ARGS");
        HandleMirror x = new HandleMirror();
        for (int what = 0; what <= 3; what++) due("none of " + what, x.count(what), 0);
        x = ints(handles(members(things(60), 24), 60), 1, 2, 3, 4, 5, 6);
        int[] most = {60, 24, 60, 6};
        x.object(0, 0);
        x.method(0, 0, 0, 0, shape(INT));
        x.same(INT);
        x.arg(INT, 1);
        for (int what = 0; what <= 3; what++) due("as many as may be of " + what, x.count(what), most[what]);
    }

    private static void countMade() {
        promise(36, "4 MADE");
        int[] all = {0, 1, 5, 6, 191, 192, 7999, 8000};
        for (int n : all) due("made", made(new HandleMirror(), n).count(4), n);
        HandleMirror x = things(5);
        x.row(24, 8);
        x.arg(BOX + INT, 1);
        due("things and args are none", x.count(4), 0);
        x.bind(x.same(THING), 0);
        due("a box that is bound is none", x.count(4), 0);
        ints(x, 1);
        x.bind(x.same(THING), 0);
        due("a box for a plain one is one", x.count(4), 1);
    }

    private static void countFailures() {
        promise(36, "10 + f FAILURES of number f (1 to 10) in RUNS ever.");
        HandleMirror x = dividing();
        for (int n = 1; n <= 3; n++) {
            ints(x, 1, 0).run(0, true, INT);
            for (int f = 1; f <= 10; f++) due("failures " + f, x.count(10 + f), f == 6 ? n : 0);
        }
        x.target(x.site(0), x.count(2));
        int site = x.site(0);
        x.target(site, site);
        ints(x, 1, 0).run(site, true, INT);
        due("spent", x.count(19), 1);
        HandleMirror full = made(new HandleMirror(), MOST_MADE);
        ints(full, 1).run(full.same(THING), false, THING);
        due("full", full.count(20), 1);
    }

    private static void countOutside() {
        promise(36, "in RUNS ever. OUTSIDE.");
        int[] whats = {LOWEST, -1, 0, 4, 5, 6, 9, 10, 11, 20, 21, 22, HIGHEST};
        for (int what : whats) {
            boolean inside = what >= 0 && what <= 4 || what >= 11 && what <= 20;
            bounded("what " + what, inside, 0, OUTSIDE, x -> x.count(what));
        }
    }
}
