/** Promise 12: handles on members, found by a class that asks. */
public final class FindTest {
    private static final int VIRTUAL = 0, STATIC = 1, SPECIAL = 2, MAKER = 3, GETTER = 4, SETTER = 5;
    private static final long INT = Check.shape(Check.INT), NONE = Check.shape(Check.NOTHING);

    public static void main(String[] args) {
        outside();
        fieldsOfNothing();
        fieldKinds();
        virtual();
        statics();
        special();
        makers();
        fields();
        privates();
        lateMembers();
        full();
        Check.end("FindTest");
    }

    private static void outside() {
        HandleMirror x = new HandleMirror();
        Check.due("how below", x.find(-1, 0, 0, INT, 0), Check.OUTSIDE);
        Check.due("how above", x.find(6, 0, 0, INT, 0), Check.OUTSIDE);
        for (int how = 0; how <= 5; how++) {
            long shape = how == MAKER ? NONE : INT;
            int none = how > MAKER ? Check.NO_FIELD : Check.NO_METHOD;
            Check.due("class below " + how, x.find(how, -1, 0, shape, 0), Check.OUTSIDE);
            Check.due("class above " + how, x.find(how, 5, 0, shape, 0), Check.OUTSIDE);
            Check.due("asker below " + how, x.find(how, 0, 0, shape, -1), Check.OUTSIDE);
            Check.due("asker above " + how, x.find(how, 0, 0, shape, 5), Check.OUTSIDE);
            Check.due("shape " + how, x.find(how, 0, 0, 0, 0), Check.OUTSIDE);
            Check.due("name below " + how, x.find(how, 0, -1, shape, 0), how == MAKER ? none : Check.OUTSIDE);
            Check.due("name above " + how, x.find(how, 0, 16, shape, 0), how == MAKER ? none : Check.OUTSIDE);
            Check.due("none " + how, x.find(how, 0, 0, shape, 0), none);
            long more = Check.shape(how == MAKER ? Check.NOTHING : Check.INT, 4, 4, 4, 4, 4, 4);
            Check.due("parameters " + how, x.find(how, 0, 0, more, 0), how > MAKER ? Check.OUTSIDE : none);
        }
        Check.due("a maker's result", x.find(MAKER, 0, 0, INT, 0), Check.OUTSIDE);
        Check.due("special ahead of none", x.find(SPECIAL, 1, 0, INT, 0), Check.NO_ACCESS);
        Check.due("outside ahead of special", x.find(SPECIAL, 1, 16, INT, 0), Check.OUTSIDE);
    }

    /** NOTHING is no field's kind: this comes ahead of whether there is a field, and of who may use it. */
    private static void fieldsOfNothing() {
        HandleMirror x = new HandleMirror();
        x.field(0, 0, 0, Check.INT);
        x.field(0, 1, Check.PRIVATE | Check.FINAL, Check.INT);
        x.field(0, 2, Check.STATIC, Check.INT);
        for (int how = GETTER; how <= SETTER; how++) {
            for (int name = 0; name < 16; name++) {
                for (int c = 0; c < 5; c++) {
                    Check.due("field of nothing " + how + " " + name, x.find(how, c, name, NONE, 4), Check.OUTSIDE);
                }
            }
            Check.due("with a parameter " + how, x.find(how, 0, 0, Check.shape(Check.NOTHING, Check.INT), 0), Check.OUTSIDE);
        }
        Check.due("no handles came", x.count(2), 0);
    }

    /** Of all that a shape's lowest byte can say, the kinds of fields alone may be asked for. */
    private static void fieldKinds() {
        HandleMirror x = new HandleMirror();
        for (int kind = 0; kind < 255; kind++) {
            if (kind == 128) x = new HandleMirror();
            int want = Check.OUTSIDE;
            for (int known : Check.KINDS) {
                if (known == kind && kind != Check.NOTHING) want = Check.NO_FIELD;
            }
            Check.due("kind of a getter " + kind, x.find(GETTER, 0, 5, Check.shape(kind), 0), want);
            Check.due("kind of a setter " + kind, x.find(SETTER, 0, 5, Check.shape(kind), 0), want);
        }
    }

    /** Two classes have the method; LAST has a static one, FAR a private one. */
    private static HandleMirror family() {
        HandleMirror x = new HandleMirror();
        x.method(0, 0, 0, 0, INT);
        x.method(1, 0, 0, 0, INT);
        x.method(3, 0, Check.STATIC, 0, INT);
        x.method(4, 0, Check.PRIVATE, 0, INT);
        for (int c = 0; c < 5; c++) x.object(c, c);
        return x;
    }

    private static void works(HandleMirror x, int h, int kind, int thing, long want) {
        x.give(kind, thing);
        Check.due("run " + h + " on " + thing, x.run(h, true, Check.INT), 1);
        Check.due("result of " + h + " on " + thing, x.result(2), want);
    }

    private static void virtual() {
        HandleMirror x = family();
        int h = x.find(VIRTUAL, 0, 0, INT, 4);
        Check.due("shape", x.shape(h), Check.shape(Check.INT, Check.BASE));
        works(x, h, Check.BASE, 0, 0);
        works(x, h, Check.BASE, 1, 1001);
        works(x, h, Check.BASE, 2, 2);
        works(x, h, Check.BASE, 3, 1003);
        works(x, h, Check.BASE, 4, 4);
        x.give(Check.BASE, -1);
        Check.due("none", x.run(h, true, Check.INT), Check.NULL);
        Check.due("nearest is static", x.find(VIRTUAL, 3, 0, INT, 3), Check.NO_ACCESS);
        Check.due("nearest is private", x.find(VIRTUAL, 4, 0, INT, 3), Check.NO_ACCESS);
        h = x.find(VIRTUAL, 4, 0, INT, 4);
        works(x, h, Check.FAR, 4, 3004);
        h = x.find(VIRTUAL, 2, 0, INT, 1);
        Check.due("shape of one above", x.shape(h), Check.shape(Check.INT, Check.RIGHT));
        works(x, h, Check.RIGHT, 4, 4);
        Check.due("other shape", x.find(VIRTUAL, 0, 0, Check.shape(Check.LONG), 0), Check.NO_METHOD);
        Check.due("other name", x.find(VIRTUAL, 0, 1, INT, 0), Check.NO_METHOD);
    }

    private static void statics() {
        HandleMirror x = family();
        Check.due("not static", x.find(STATIC, 1, 0, INT, 1), Check.NO_ACCESS);
        int h = x.find(STATIC, 3, 0, INT, 0);
        Check.due("shape", x.shape(h), INT);
        Check.due("run", x.run(h, true, Check.INT), 1);
        Check.due("result", x.result(2), 2000);
        x.method(0, 1, Check.STATIC, 0, INT);
        Check.due("static above", x.shape(x.find(STATIC, 4, 1, INT, 1)), INT);
        Check.due("none", x.find(STATIC, 3, 2, INT, 0), Check.NO_METHOD);
    }

    private static void special() {
        HandleMirror x = family();
        int h = x.find(SPECIAL, 0, 0, INT, 3);
        Check.due("shape", x.shape(h), Check.shape(Check.INT, Check.LAST));
        works(x, h, Check.LAST, 3, 3);
        h = x.find(SPECIAL, 1, 0, INT, 1);
        works(x, h, Check.LEFT, 3, 1003);
        Check.due("asker beside", x.find(SPECIAL, 1, 0, INT, 2), Check.NO_ACCESS);
        Check.due("asker above", x.find(SPECIAL, 1, 0, INT, 0), Check.NO_ACCESS);
        Check.due("static", x.find(SPECIAL, 3, 0, INT, 3), Check.NO_ACCESS);
        Check.due("none", x.find(SPECIAL, 1, 1, INT, 3), Check.NO_METHOD);
        x.give(Check.LEFT, -1);
        Check.due("null", x.run(h, true, Check.INT), Check.NULL);
    }

    private static void makers() {
        HandleMirror x = new HandleMirror();
        long two = Check.shape(Check.NOTHING, Check.INT, Check.THING);
        x.maker(0, 0, two);
        x.maker(4, Check.VARIED, Check.shape(Check.NOTHING, Check.ROW + Check.LONG));
        Check.due("not of a class above", x.find(MAKER, 1, 0, two, 1), Check.NO_METHOD);
        int h = x.find(MAKER, 0, 99, two, 4);
        Check.due("shape", x.shape(h), Check.shape(Check.BASE, Check.INT, Check.THING));
        x.arg(Check.INT, 40);
        x.arg(Check.BOX + Check.INT, 2);
        Check.due("run", x.run(h, false, Check.BASE), 1);
        Check.due("kind", x.result(1), Check.BASE);
        Check.due("tag", x.result(2), 42);
        int varied = x.find(MAKER, 4, 0, Check.shape(Check.NOTHING, Check.ROW + Check.LONG), 4);
        x.arg(Check.INT, 1);
        x.arg(Check.INT, 2);
        Check.due("varied", x.run(varied, false, Check.FAR), 1);
        Check.due("the row's length", x.result(2), 2);
    }

    private static void fields() {
        HandleMirror x = new HandleMirror();
        x.object(3, 9);
        x.field(0, 0, 0, Check.INT);
        x.field(1, 0, 0, Check.INT);
        x.field(0, 1, Check.STATIC, Check.INT);
        x.field(0, 2, Check.FINAL, Check.INT);
        int get = x.find(GETTER, 3, 0, INT, 0);
        int set = x.find(SETTER, 3, 0, INT, 0);
        int getAbove = x.find(GETTER, 0, 0, INT, 0);
        int getStatic = x.find(GETTER, 2, 1, INT, 4);
        int setStatic = x.find(SETTER, 2, 1, INT, 4);
        Check.due("getter's shape", x.shape(get), Check.shape(Check.INT, Check.LAST));
        Check.due("setter's shape", x.shape(set), Check.shape(Check.NOTHING, Check.LAST, Check.INT));
        Check.due("static getter's shape", x.shape(getStatic), INT);
        Check.due("static setter's shape", x.shape(setStatic), Check.shape(Check.NOTHING, Check.INT));
        Check.due("setter of a final one", x.find(SETTER, 3, 2, INT, 0), Check.NO_ACCESS);
        Check.due("getter of a final one", x.shape(x.find(GETTER, 3, 2, INT, 0)), Check.shape(Check.INT, Check.LAST));
        Check.due("other kind", x.find(GETTER, 3, 0, Check.shape(Check.LONG), 0), Check.NO_FIELD);
        x.give(Check.LAST, 0);
        x.arg(Check.INT, 77);
        Check.due("set", x.run(set, true, Check.NOTHING), 1);
        works(x, get, Check.LAST, 0, 77);
        works(x, getAbove, Check.BASE, 0, 0);
        works(x, 5, Check.LAST, 0, 9);
        x.arg(Check.INT, -3);
        Check.due("set static", x.run(setStatic, true, Check.NOTHING), 1);
        Check.due("get static", x.run(getStatic, true, Check.INT), 1);
        Check.due("static value", x.result(2), -3);
        x.give(Check.LAST, -1);
        Check.due("get of none", x.run(get, true, Check.INT), Check.NULL);
        x.give(Check.LAST, -1);
        x.arg(Check.INT, 1);
        Check.due("set of none", x.run(set, true, Check.NOTHING), Check.NULL);
    }

    private static void privates() {
        HandleMirror x = new HandleMirror();
        x.method(0, 0, Check.PRIVATE, 0, INT);
        x.method(0, 1, Check.PRIVATE | Check.STATIC, 0, INT);
        x.maker(0, Check.PRIVATE, NONE);
        x.field(0, 0, Check.PRIVATE, Check.INT);
        for (int how = 0; how <= 5; how++) {
            long shape = how == MAKER ? NONE : INT;
            int name = how == STATIC ? 1 : 0;
            int c = how == MAKER ? 0 : 3;
            Check.due("other nest " + how, x.find(how, how == SPECIAL ? 1 : c, name, shape, 3), Check.NO_ACCESS);
            x.nest(3, 0);
            Check.due("same nest " + how, x.find(how, c, name, shape, 3) >= 0 || how == SPECIAL ? 1 : 0, 1);
            x.nest(3, 3);
            x.nest(0, 2);
            Check.due("nest of another " + how, x.find(how, how == SPECIAL ? 0 : c, name, shape, how == SPECIAL ? 0 : 2) >= 0 ? 1 : 0, 1);
            x.nest(0, 0);
        }
    }

    /** A method that comes after the handle is chosen all the same. */
    private static void lateMembers() {
        HandleMirror x = new HandleMirror();
        x.object(3, 5);
        x.method(0, 0, 0, 0, INT);
        int h = x.find(VIRTUAL, 0, 0, INT, 0);
        works(x, h, Check.BASE, 0, 5);
        x.method(3, 0, 0, 7, INT);
        works(x, h, Check.BASE, 0, 111);
    }

    private static void full() {
        HandleMirror x = new HandleMirror();
        x.method(0, 0, 0, 0, INT);
        for (int i = 0; i < 60; i++) Check.due("handle", x.find(VIRTUAL, 0, 0, INT, 0), i);
        Check.due("full", x.find(VIRTUAL, 0, 0, INT, 0), Check.FULL);
        Check.due("none ahead of full", x.find(VIRTUAL, 0, 1, INT, 0), Check.NO_METHOD);
        Check.due("access ahead of full", x.find(STATIC, 0, 0, INT, 0), Check.NO_ACCESS);
    }
}
