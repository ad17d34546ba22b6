/** Boundary cases of promise 12: handles on members. */
public final class BoundsFindTest extends Bounds {
    private static final int VIRTUAL = 0, STATICALLY = 1, SPECIAL = 2, MAKER = 3, GETTER = 4, SETTER = 5;
    private static final long INTS = shape(INT), MADE = shape(NOTHING);
    private static final int[] PARENTS = {-1, 0, 0, 1, 2};

    public static void main(String[] args) {
        howOutside();
        classesOutside();
        nameOutside();
        shapeOutside();
        shapeOfMakers();
        shapeOfFields();
        outsideAheadOfAll();
        variedIfTheMemberIs();
        thenFull();
        nearestFirst();
        noMethod();
        virtualStatic();
        privateNests();
        virtualParameters();
        workedPrivate();
        workedVirtual();
        staticNoAccess();
        specialAsker();
        specialAsVirtual();
        specialWorked();
        makerOfItself();
        makerNoAccess();
        getterNearest();
        getterNoAccess();
        getterParameters();
        setterFinal();
        setterParameters();
        settersApart();
        end("BoundsFindTest", 12, 12);
    }

    private static boolean isBelow(int c, int other) {
        for (int at = c; at >= 0; at = PARENTS[at]) {
            if (at == other) return true;
        }
        return false;
    }

    /** One member of each sort in BASE, of the name 0: static method 0, method 1 (of LONG), maker 2, field 3. */
    private static HandleMirror oneOfEach() {
        HandleMirror x = new HandleMirror();
        x.method(0, 0, STATIC, 0, INTS);
        x.method(0, 0, 0, 0, shape(LONG));
        x.maker(0, 0, MADE);
        x.field(0, 0, 0, INT);
        return x;
    }

    private static long shapeFor(int how) {
        return how == MAKER ? MADE : how == VIRTUAL || how == SPECIAL ? shape(LONG) : INTS;
    }

    private static void howOutside() {
        promise(12, "(how = 0 .. 5)");
        given(BoundsFindTest::oneOfEach);
        int[] hows = {LOWEST, -1, 0, 1, 2, 3, 4, 5, 6, 256, HIGHEST};
        for (int how : hows) bounded("how " + how, how >= 0 && how <= 5, 0, OUTSIDE, x -> x.find(how, 0, 0, shapeFor(how), 0));
    }

    private static void classesOutside() {
        promise(12, "OUTSIDE: how, CLASSES");
        given(BoundsFindTest::oneOfEach);
        int[] classes = {LOWEST, -1, 0, 1, 2, 3, 4, 5, 30, HIGHEST};
        for (int how = 0; how <= 5; how++) {
            int now = how;
            for (int c : classes) {
                boolean inside = c >= 0 && c <= 4;
                int found = now == MAKER && c != 0 ? NO_METHOD : 0;
                bounded(how + " asked by " + c, inside, 0, OUTSIDE, x -> x.find(now, 0, 0, shapeFor(now), c));
                int asker = inside && now == SPECIAL ? c : 0;
                bounded(how + " in " + c, inside && found == 0, 0, inside ? found : OUTSIDE, x -> x.find(now, c, 0, shapeFor(now), asker));
            }
        }
    }

    private static void nameOutside() {
        promise(12, "NAME (not of 3)");
        given(BoundsFindTest::oneOfEach);
        int[] names = {LOWEST, -1, 0, 1, 15, 16, HIGHEST};
        for (int how = 0; how <= 5; how++) {
            int now = how;
            for (int name : names) {
                int none = how > MAKER ? NO_FIELD : NO_METHOD;
                if (how == MAKER || name == 0) answers(how + " of " + name, 0, x -> x.find(now, 0, name, shapeFor(now), 0));
                else refused(how + " of " + name, name > 0 && name <= 15 ? none : OUTSIDE, x -> x.find(now, 0, name, shapeFor(now), 0));
            }
        }
    }

    private static void shapeOutside() {
        promise(12, "NAME (not of 3), SHAPE");
        given(BoundsFindTest::oneOfEach);
        long[] shapes = {0, -1, 20, 46, INTS | 9 << 8, INTS | 5 << 16, INTS | 1L << 56, Long.MIN_VALUE | INTS};
        for (long shape : shapes) {
            for (int how = 0; how <= 5; how++) {
                int now = how;
                long own = how == MAKER ? shape & ~255L | MADE : shape;
                if (own == MADE) continue;
                refused(how + " of " + Long.toHexString(own), OUTSIDE, x -> x.find(now, 0, 0, own, 0));
            }
        }
    }

    private static void shapeOfMakers() {
        promise(12, "(of 3 its result NOTHING");
        given(BoundsFindTest::oneOfEach);
        for (int kind : KINDS) bounded("result " + kind, kind == NOTHING, 0, OUTSIDE, x -> x.find(MAKER, 0, 0, shape(kind), 0));
        refused("other parameters", NO_METHOD, x -> x.find(MAKER, 0, 0, shape(NOTHING, INT), 0));
        refused("a result and parameters", OUTSIDE, x -> x.find(MAKER, 0, 0, shape(BASE, INT), 0));
    }

    private static void shapeOfFields() {
        promise(12, "of 4, 5 no PARAMETERS, the KIND as result)");
        given(BoundsFindTest::oneOfEach);
        for (int how = GETTER; how <= SETTER; how++) {
            int now = how;
            for (int kind : KINDS) {
                int refusal = kind == NOTHING ? OUTSIDE : NO_FIELD;
                bounded(how + " of " + kind, kind == INT, 0, refusal, x -> x.find(now, 0, 0, shape(kind), 0));
            }
            for (int size = 1; size <= 6; size++) {
                int[] parameters = new int[size];
                for (int i = 0; i < size; i++) parameters[i] = INT;
                refused(size + " parameters", OUTSIDE, x -> x.find(now, 0, 0, shape(INT, parameters), 0));
            }
        }
    }

    private static void outsideAheadOfAll() {
        promise(12, "OUTSIDE: how, CLASSES, NAME (not of 3), SHAPE");
        given(() -> handles(oneOfEach(), 60));
        for (int how = 0; how <= 5; how++) {
            int now = how;
            long shape = shapeFor(how);
            if (how != MAKER) refused(how + " name, full", OUTSIDE, x -> x.find(now, 0, 16, shape, 0));
            refused(how + " class, full", OUTSIDE, x -> x.find(now, 5, 0, shape, 0));
            refused(how + " asker, full", OUTSIDE, x -> x.find(now, 0, 0, shape, -1));
            refused(how + " shape, full", OUTSIDE, x -> x.find(now, 0, 0, 0, 0));
        }
        refused("special's asker above, and a name", OUTSIDE, x -> x.find(SPECIAL, 1, 16, shape(LONG), 0));
        refused("special's asker above, and a shape", OUTSIDE, x -> x.find(SPECIAL, 1, 0, 0, 0));
    }

    private static void variedIfTheMemberIs() {
        promise(12, "VARIED, if the MEMBER is.");
        for (int marks = STATIC; marks <= (STATIC | VARIED); marks += VARIED) {
            HandleMirror x = new HandleMirror();
            x.method(0, 0, marks, 0, shape(INT, ROW + INT));
            x.maker(0, marks & VARIED, shape(NOTHING, ROW + INT));
            int method = x.find(STATICALLY, 0, 0, shape(INT, ROW + INT), 0);
            int maker = x.find(MAKER, 0, 0, shape(NOTHING, ROW + INT), 0);
            boolean varied = marks > STATIC;
            due("method", ints(x, 1, 2).run(method, false, INT), varied ? 1 : WRONG_TYPE);
            x.forget();
            due("maker", ints(x, 1, 2).run(maker, false, BASE), varied ? 1 : WRONG_TYPE);
            x.forget();
            due("as() of its own shape", x.as(method, shape(INT, ROW + INT)), varied ? 2 : method);
        }
    }

    private static void thenFull() {
        promise(12, "then as told; FULL.");
        for (int how = 0; how <= 5; how++) {
            int now = how;
            long shape = shapeFor(how);
            given(() -> handles(oneOfEach(), 59));
            answers(how + " as the 60th", 59, x -> x.find(now, 0, 0, shape, 0));
            given(() -> handles(oneOfEach(), 60));
            refused(how + " as the 61st", FULL, x -> x.find(now, 0, 0, shape, 0));
        }
        refused("no method, full", NO_METHOD, x -> x.find(VIRTUAL, 0, 1, INTS, 0));
        refused("no maker, full", NO_METHOD, x -> x.find(MAKER, 1, 0, MADE, 0));
        refused("no field, full", NO_FIELD, x -> x.find(GETTER, 0, 1, INTS, 0));
        refused("no access, full", NO_ACCESS, x -> x.find(VIRTUAL, 0, 0, INTS, 0));
        refused("no access to special, full", NO_ACCESS, x -> x.find(SPECIAL, 1, 0, INTS, 0));
    }

    /** Methods of one name and shape in some classes, all with the same marks. */
    private static HandleMirror in(String classes, int marks) {
        HandleMirror x = new HandleMirror();
        for (char c : classes.toCharArray()) x.method(c - '0', 0, marks, 0, INTS);
        return x;
    }

    private static void nearestFirst() {
        promise(12, "0 VIRTUAL: the first METHOD of NAME and SHAPE in c, or above (the nearest first)");
        String[] families = {"0", "01", "10", "013", "310", "024", "3", "4"};
        for (String family : families) {
            for (int c = 0; c < 5; c++) {
                int nearest = -1;
                for (int at = c; at >= 0 && nearest < 0; at = PARENTS[at]) nearest = family.indexOf('0' + at);
                HandleMirror x = in(family, STATIC);
                int h = x.find(STATICALLY, c, 0, INTS, 0);
                due("from " + c + " in " + family, h, nearest < 0 ? NO_METHOD : 0);
                if (nearest >= 0) brings("from " + c + " in " + family, x, x.run(h, true, INT), INT, 1000 * nearest);
            }
        }
    }

    private static void noMethod() {
        promise(12, "NO METHOD: none");
        for (int how = VIRTUAL; how <= MAKER; how++) {
            int now = how;
            long shape = shapeFor(how);
            given(HandleMirror::new);
            refused("no member at all, " + how, NO_METHOD, x -> x.find(now, 0, 0, shape, 0));
            given(BoundsFindTest::oneOfEach);
            if (how != MAKER) refused("another name, " + how, NO_METHOD, x -> x.find(now, 0, 1, shape, 0));
            refused("another shape, " + how, NO_METHOD, x -> x.find(now, 0, 0, shape | 5 << 8, 0));
            given(() -> {
                HandleMirror x = new HandleMirror();
                x.method(1, 0, STATIC, 0, INTS);
                x.method(1, 0, 0, 0, shape(LONG));
                x.maker(1, 0, MADE);
                return x;
            });
            refused("a class below alone, " + how, NO_METHOD, x -> x.find(now, 0, 0, shape, 0));
            refused("a class beside alone, " + how, NO_METHOD, x -> x.find(now, 2, 0, shape, 2));
        }
    }

    private static void virtualStatic() {
        promise(12, "NO ACCESS: it is STATIC");
        given(() -> {
            HandleMirror x = in("0", 0);
            x.method(1, 0, STATIC, 0, INTS);
            return x;
        });
        answers("not static", 0, x -> x.find(VIRTUAL, 0, 0, INTS, 0));
        refused("static", NO_ACCESS, x -> x.find(VIRTUAL, 1, 0, INTS, 1));
        refused("static is the nearest", NO_ACCESS, x -> x.find(VIRTUAL, 3, 0, INTS, 3));
        answers("beside it", 0, x -> x.find(VIRTUAL, 4, 0, INTS, 3));
    }

    private static void privateNests() {
        promise(12, "or it is PRIVATE, and asker's CLASS has another NEST than the METHOD's.");
        for (int nest = 0; nest <= 4; nest++) {
            int owners = nest;
            given(() -> {
                HandleMirror x = in("1", PRIVATE);
                x.nest(1, owners);
                return x;
            });
            for (int asker = 0; asker <= 4; asker++) {
                int a = asker;
                boolean same = asker == 1 || asker == nest;
                bounded("nest " + nest + ", asked by " + asker, same, 0, NO_ACCESS, x -> x.find(VIRTUAL, 1, 0, INTS, a));
                bounded("nest " + nest + ", in a class below, asked by " + asker, same, 0, NO_ACCESS, x -> x.find(VIRTUAL, 3, 0, INTS, a));
            }
            given(() -> {
                HandleMirror x = in("0", PRIVATE);
                x.nest(0, owners);
                return x;
            });
            for (int asker = 1; asker <= 4; asker++) {
                int a = asker;
                bounded("base has nest " + nest + ", asked by " + asker, asker == nest, 0, NO_ACCESS, x -> x.find(VIRTUAL, 0, 0, INTS, a));
            }
        }
        HandleMirror x = in("1", PRIVATE);
        due("found", x.find(VIRTUAL, 1, 0, INTS, 1), 0);
        x.nest(1, 4);
        x.object(1, 5);
        x.give(LEFT, 0);
        due("a nest that changes later does not matter", x.run(0, true, INT), 1);
    }

    private static void virtualParameters() {
        promise(12, "PARAMETERS: CLASS c, then the METHOD's.");
        HandleMirror x = new HandleMirror();
        long four = shape(NOTHING, LONG, THING, ROW, BASE);
        x.method(0, 0, 0, 0, four);
        for (int c = 0; c < 5; c++) {
            due("class " + c, x.shape(x.find(VIRTUAL, c, 0, four, 0)), shape(NOTHING, BASE + c, LONG, THING, ROW, BASE));
        }
    }

    private static void worked(HandleMirror x, int h, int thing, int kind, long want) {
        x.give(kind, thing);
        brings("thing " + thing, x, x.run(h, true, INT), INT, want);
    }

    private static void workedPrivate() {
        promise(12, "Worked, it is that METHOD, if it is PRIVATE");
        HandleMirror x = in("1", PRIVATE);
        x.method(3, 0, 0, 0, INTS);
        x.method(0, 0, 0, 0, INTS);
        x.object(1, 0);
        x.object(3, 0);
        int h = x.find(VIRTUAL, 1, 0, INTS, 1);
        worked(x, h, 0, LEFT, 0);
        worked(x, h, 1, LEFT, 0);
    }

    private static void workedVirtual() {
        promise(12, "else the first one of this NAME and SHAPE, neither STATIC nor PRIVATE, in the RECEIVER's CLASS or above.");
        int[] marks = {0, STATIC, PRIVATE, STATIC | PRIVATE};
        for (int own : marks) {
            HandleMirror x = in("0", 0);
            x.method(1, 0, 0, 0, INTS);
            x.method(3, 0, own, 0, INTS);
            x.method(3, 1, 0, 0, INTS);
            x.method(3, 0, 0, 0, shape(LONG));
            for (int c = 0; c < 5; c++) x.object(c, 0);
            int h = x.find(VIRTUAL, 0, 0, INTS, 4);
            long[] want = {0, 1000, 0, own == 0 ? 2000 : 1000, 0};
            for (int c = 0; c < 5; c++) worked(x, h, c, BASE, want[c]);
            x.method(4, 0, 0, 0, INTS);
            worked(x, h, 4, BASE, 5000);
            x.give(BASE, NONE);
            due("none", x.run(h, true, INT), NULL);
        }
    }

    private static void staticNoAccess() {
        promise(12, "1 STATIC: likewise; NO ACCESS: it is not STATIC, or PRIVATE as told.");
        given(() -> {
            HandleMirror x = in("0", STATIC | PRIVATE);
            x.method(1, 0, 0, 0, INTS);
            x.nest(4, 0);
            return x;
        });
        refused("not static", NO_ACCESS, x -> x.find(STATICALLY, 1, 0, INTS, 1));
        refused("not static is the nearest", NO_ACCESS, x -> x.find(STATICALLY, 3, 0, INTS, 0));
        boolean[] may = {true, false, false, false, true};
        for (int asker = 0; asker < 5; asker++) {
            int a = asker;
            bounded("private, asked by " + asker, may[asker], 0, NO_ACCESS, x -> x.find(STATICALLY, 2, 0, INTS, a));
        }
        HandleMirror x = in("0", STATIC);
        due("its shape", x.shape(x.find(STATICALLY, 4, 0, INTS, 1)), INTS);
    }

    private static void specialAsker() {
        promise(12, "2 SPECIAL: NO ACCESS, ahead of all: asker is not c nor below it");
        for (int c = 0; c < 5; c++) {
            for (int asker = 0; asker < 5; asker++) {
                int in = c;
                int a = asker;
                given(() -> in("0", 0));
                bounded("in " + c + " by " + asker, isBelow(asker, c), 0, NO_ACCESS, x -> x.find(SPECIAL, in, 0, INTS, a));
                given(HandleMirror::new);
                refused("none in " + c + " by " + asker, isBelow(asker, c) ? NO_METHOD : NO_ACCESS, x -> x.find(SPECIAL, in, 0, INTS, a));
                given(() -> handles(in("0", 0), 60));
                refused("full, in " + c + " by " + asker, isBelow(asker, c) ? FULL : NO_ACCESS, x -> x.find(SPECIAL, in, 0, INTS, a));
            }
        }
    }

    private static void specialAsVirtual() {
        promise(12, "then as 0; PARAMETERS: CLASS asker, then the METHOD's");
        given(() -> {
            HandleMirror x = in("0", PRIVATE);
            x.method(1, 0, STATIC, 0, INTS);
            x.nest(2, 0);
            return x;
        });
        refused("static", NO_ACCESS, x -> x.find(SPECIAL, 1, 0, INTS, 3));
        refused("private, another nest", NO_ACCESS, x -> x.find(SPECIAL, 0, 0, INTS, 4));
        answers("private, the same nest", 0, x -> x.find(SPECIAL, 0, 0, INTS, 2));
        HandleMirror x = in("0", 0);
        for (int asker = 0; asker < 5; asker++) {
            due("asked by " + asker, x.shape(x.find(SPECIAL, 0, 0, INTS, asker)), shape(INT, BASE + asker));
        }
    }

    private static void specialWorked() {
        promise(12, "worked, it is the found one itself.");
        HandleMirror x = in("013", 0);
        x.object(3, 0);
        worked(x, x.find(SPECIAL, 0, 0, INTS, 3), 0, LAST, 0);
        worked(x, x.find(SPECIAL, 1, 0, INTS, 3), 0, LAST, 1000);
        worked(x, x.find(SPECIAL, 3, 0, INTS, 3), 0, LAST, 2000);
        x.give(LAST, NONE);
        due("none", x.run(0, true, INT), NULL);
    }

    private static void makerOfItself() {
        promise(12, "3 MAKER of c itself with this SHAPE: NO METHOD");
        for (int owner = 0; owner < 5; owner++) {
            int own = owner;
            given(() -> {
                HandleMirror x = new HandleMirror();
                x.maker(own, 0, MADE);
                return x;
            });
            for (int c = 0; c < 5; c++) {
                int in = c;
                bounded("of " + owner + " in " + c, c == owner, 0, NO_METHOD, x -> x.find(MAKER, in, 0, MADE, in));
            }
            answers("its result", shape(BASE + owner), x -> x.shape(x.find(MAKER, own, LOWEST, MADE, 0)));
        }
    }

    private static void makerNoAccess() {
        promise(12, "NO METHOD; NO ACCESS (PRIVATE); the result is CLASS c.");
        given(() -> {
            HandleMirror x = new HandleMirror();
            x.maker(2, PRIVATE, MADE);
            x.nest(4, 2);
            return x;
        });
        for (int asker = 0; asker < 5; asker++) {
            int a = asker;
            bounded("asked by " + asker, asker == 2 || asker == 4, 0, NO_ACCESS, x -> x.find(MAKER, 2, 0, MADE, a));
        }
        answers("its shape", shape(RIGHT), x -> x.shape(x.find(MAKER, 2, 0, MADE, 2)));
    }

    private static void getterNearest() {
        promise(12, "4 GETTER of the first FIELD of NAME and KIND in c, or above: NO FIELD");
        HandleMirror x = new HandleMirror();
        x.field(0, 0, STATIC | FINAL, INT);
        x.field(1, 0, STATIC | FINAL, INT);
        x.field(1, 1, STATIC | FINAL, INT);
        x.field(3, 0, STATIC | FINAL, LONG);
        long[] want = {0, 1, 0, 1, 0};
        for (int c = 0; c < 5; c++) {
            int h = x.find(GETTER, c, 0, INTS, 4);
            brings("in " + c, x, x.run(h, true, INT), INT, want[c]);
        }
        int[] names = {NO_FIELD, 5, NO_FIELD, 6, NO_FIELD};
        for (int c = 0; c < 5; c++) due("another name in " + c, x.find(GETTER, c, 1, INTS, 4), names[c]);
        for (int c = 0; c < 5; c++) due("another kind in " + c, x.find(SETTER, c, 0, shape(LONG), 4), c == 3 ? NO_ACCESS : NO_FIELD);
        given(HandleMirror::new);
        for (int how = GETTER; how <= SETTER; how++) {
            int now = how;
            refused("no member at all", NO_FIELD, y -> y.find(now, 0, 0, INTS, 0));
        }
        given(() -> in("0", 0));
        refused("a method is no field", NO_FIELD, y -> y.find(GETTER, 0, 0, INTS, 0));
    }

    private static void getterNoAccess() {
        promise(12, "NO FIELD; NO ACCESS (PRIVATE)");
        given(() -> {
            HandleMirror x = new HandleMirror();
            x.field(1, 0, PRIVATE, INT);
            x.nest(4, 1);
            return x;
        });
        for (int how = GETTER; how <= SETTER; how++) {
            for (int asker = 0; asker < 5; asker++) {
                int a = asker;
                int now = how;
                boolean may = asker == 1 || asker == 4;
                bounded(how + " asked by " + asker, may, 0, NO_ACCESS, x -> x.find(now, 1, 0, INTS, a));
                bounded(how + " in a class below, asked by " + asker, may, 0, NO_ACCESS, x -> x.find(now, 3, 0, INTS, a));
            }
        }
    }

    private static void getterParameters() {
        promise(12, "PARAMETERS: CLASS c, none if it is STATIC (a RECEIVER that is NONE: NULL).");
        HandleMirror x = new HandleMirror();
        x.field(0, 0, 0, THING);
        x.field(0, 1, STATIC, THING);
        for (int c = 0; c < 5; c++) {
            due("in " + c, x.shape(x.find(GETTER, c, 0, shape(THING), 0)), shape(THING, BASE + c));
            due("static in " + c, x.shape(x.find(GETTER, c, 1, shape(THING), 0)), shape(THING));
        }
        x.give(BASE, NONE);
        due("none", x.run(0, true, THING), NULL);
        takes("none", x, 1, 1, 0, 1);
    }

    private static void setterFinal() {
        promise(12, "5 SETTER likewise; NO ACCESS, if it is FINAL, too");
        for (int marks = 0; marks <= 11; marks++) {
            if ((marks & VARIED) != 0) continue;
            int m = marks;
            given(() -> {
                HandleMirror x = new HandleMirror();
                x.field(0, 0, m, INT);
                return x;
            });
            bounded("setter, marks " + marks, marks < FINAL, 0, NO_ACCESS, x -> x.find(SETTER, 0, 0, INTS, 0));
            bounded("setter, asked by another, marks " + marks, marks < PRIVATE, 0, NO_ACCESS, x -> x.find(SETTER, 0, 0, INTS, 1));
            answers("getter, marks " + marks, 0, x -> x.find(GETTER, 0, 0, INTS, 0));
        }
    }

    private static void setterParameters() {
        promise(12, "one PARAMETER more: the KIND; the result is NOTHING.");
        HandleMirror x = new HandleMirror();
        x.field(0, 0, 0, LONG);
        x.field(0, 1, STATIC, LONG);
        x.object(4, 0);
        int set = x.find(SETTER, 4, 0, shape(LONG), 0);
        int setStatic = x.find(SETTER, 4, 1, shape(LONG), 0);
        due("shape", x.shape(set), shape(NOTHING, FAR, LONG));
        due("static shape", x.shape(setStatic), shape(NOTHING, LONG));
        x.give(FAR, 0);
        x.arg(LONG, Long.MIN_VALUE);
        due("set", x.run(set, true, NOTHING), 1);
        due("told", x.told(0, 3, 0), Long.MIN_VALUE);
        x.arg(LONG, Long.MAX_VALUE);
        due("set static", x.run(setStatic, true, NOTHING), 1);
        due("told static", x.told(NONE, 3, 1), Long.MAX_VALUE);
        x.give(FAR, NONE);
        x.arg(LONG, 1);
        due("none", x.run(set, true, NOTHING), NULL);
        due("unchanged", x.told(0, 3, 0), Long.MIN_VALUE);
    }

    private static void settersApart() {
        promise(12, "5 SETTER likewise");
        HandleMirror x = things(2);
        for (int m = 0; m < 8; m++) {
            x.field(0, m, m % 3 == 2 ? STATIC : 0, INT);
            x.find(SETTER, 0, m, INTS, 0);
        }
        for (int m = 0; m < 8; m++) {
            if (m % 3 != 2) x.give(BASE, 1);
            due("set " + m, ints(x, 50 + m).run(m, true, NOTHING), 1);
        }
        for (int m = 0; m < 8; m++) {
            boolean isStatic = m % 3 == 2;
            due("field " + m, x.told(isStatic ? NONE : 1, 3, m), 50 + m);
            due("field " + m + " of another object", x.told(0, 3, m), 0);
        }
    }
}
