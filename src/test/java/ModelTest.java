import java.util.ArrayList;
import java.util.List;
import java.util.Random;

/**
 * Runs of up to 512 random calls, on the class and on the model that says the document once more: every call has to
 * answer the same. Each run keeps to a few kinds, so that handles fit one another, and asks the model what there is.
 */
public final class ModelTest extends Check {
    private static final int MOST_CALLS = 512, CHANGING_CALLS = 400, SEEDS = 4000;
    private static final int[] EDGES = {Integer.MIN_VALUE, Integer.MAX_VALUE, -2, -1, 0, 1, 6, 7, 8, 9, 15, 16, 19, 28, 35, 45, 60, 255};
    private static final long[] BITS = {0, 1, -1, 2, 3, 7, 8, 9, 127, 128, 255, 256, 32768, 65535, 1L << 31, (1L << 31) - 1,
        1L << 24, (1L << 24) + 1, 0x7f800000L, 0x7f800001L, 0x3f800000L, 0xbf000000L, 0x5f000000L, 0x7ff0000000000000L,
        0x7ff0000000000001L, 0x3ff8000000000000L, 0xc008000000000000L, 0x43e0000000000000L, Long.MIN_VALUE, Long.MAX_VALUE,
        (1L << 53) + 1, (1L << 62) + 513};

    /** A call on the class, and on the model. */
    interface OnClass {
        long on(HandleMirror x);
    }

    interface OnModel {
        long on(Model y);
    }

    private final int seed;
    private final Random random;
    private final HandleMirror x = new HandleMirror();
    private final Model y = new Model();
    private final List<Integer> kinds = new ArrayList<>();
    private final List<String> said = new ArrayList<>();
    private boolean wrong;

    private ModelTest(int seed) {
        this.seed = seed;
        random = new Random(seed);
        int amount = 1 + random.nextInt(6);
        while (kinds.size() < amount) kinds.add(KINDS[random.nextInt(KINDS.length)]);
        if (random.nextBoolean()) kinds.add(INT);
        if (random.nextBoolean()) kinds.add(40 + random.nextInt(5));
        if (random.nextInt(3) == 0) kinds.add(30 + random.nextInt(5));
    }

    public static void main(String[] args) {
        int from = args.length > 0 ? Integer.parseInt(args[0]) : 0;
        int seeds = args.length > 1 ? Integer.parseInt(args[1]) : SEEDS;
        for (int seed = from; seed < from + seeds; seed++) new ModelTest(seed).play();
        end("ModelTest");
    }

    private void play() {
        if (seed % 40 == 7) spinMade();
        if (seed % 40 == 9) spinFailures();
        if (seed % 10 == 3) crowd();
        while (said.size() < CHANGING_CALLS && !wrong) {
            int sort = random.nextInt(100);
            if (sort < 14) things();
            else if (sort < 26) members();
            else if (sort < 62) handles();
            else if (sort < 94) runs();
            else asks();
        }
        while (said.size() < MOST_CALLS && !wrong) asks();
    }

    /** Whether both answered the same; what was said is shown once if they did not. */
    private long both(String text, OnClass mine, OnModel other) {
        if (said.size() >= MOST_CALLS || wrong) return 0;
        long got = mine.on(x);
        long want;
        try {
            want = other.on(y);
        } catch (Model.Refused refused) {
            want = refused.number;
        }
        said.add(text + " " + got);
        due("seed " + seed + " call " + said.size() + " " + text, got, want);
        wrong = got != want;
        if (wrong && System.getProperty("whole") != null) said.forEach(System.out::println);
        return got;
    }

    // ---- what to say

    private boolean seldom() {
        return random.nextInt(25) == 0;
    }

    private int edge() {
        return EDGES[random.nextInt(EDGES.length)];
    }

    private int upTo(int most) {
        return seldom() ? edge() : seldom() ? most + 1 : random.nextInt(most + 1);
    }

    private int kind() {
        if (seldom()) return edge();
        return random.nextInt(8) == 0 ? KINDS[random.nextInt(KINDS.length)] : kinds.get(random.nextInt(kinds.size()));
    }

    private int row() {
        for (int i = 0; i < 10; i++) {
            int kind = kind();
            if (isRow(kind)) return kind;
        }
        return random.nextBoolean() ? 20 + random.nextInt(8) : 40 + random.nextInt(5);
    }

    private long bits() {
        if (random.nextInt(3) == 0) return random.nextLong() >> random.nextInt(64);
        return random.nextBoolean() ? random.nextInt(12) - 2 : BITS[random.nextInt(BITS.length)];
    }

    private long anyShape(int most) {
        if (seldom()) return random.nextLong() >>> random.nextInt(64);
        int[] parameters = new int[random.nextInt(most + 1)];
        for (int i = 0; i < parameters.length; i++) parameters[i] = kind() & 127;
        return shape(kind() & 127, parameters);
    }

    private int handle() {
        return seldom() ? edge() : Math.max(y.handles.size() - 1 - random.nextInt(60), random.nextInt(Math.max(y.handles.size(), 1)));
    }

    private Model.Shape shapeOf(int h) {
        return h >= 0 && h < y.handles.size() ? y.handles.get(h).shape : new Model.Shape(INT, List.of());
    }

    /** A handle whose result is of a kind, or that takes a kind first, if one is found soon. */
    private int handleFor(int result, int first) {
        for (int i = 0; i < 30; i++) {
            int h = handle();
            Model.Shape shape = shapeOf(h);
            boolean takes = first < 0 || shape.size() > 0 && shape.parameters.get(0) == first;
            if (takes && (result < 0 || shape.result == result)) return h;
        }
        return handle();
    }

    private int handleLike(Model.Shape shape) {
        for (int i = 0; i < 40; i++) {
            int h = handle();
            if (shapeOf(h).isLike(shape)) return h;
        }
        return handle();
    }

    // ---- things, args

    private void things() {
        switch (random.nextInt(8)) {
            case 0: object(); break;
            case 1: newRow(); break;
            case 2: case 3: case 4: anyArg(); break;
            case 5: case 6: anyGive(); break;
            default: if (random.nextInt(3) == 0) both("forget()", HandleMirror::forget, Model::forget);
        }
    }

    private void object() {
        int c = upTo(4);
        int tag = (int) bits();
        both("object(" + c + ", " + tag + ")", x -> x.object(c, tag), y -> y.object(c, tag));
    }

    private void newRow() {
        int kind = row();
        int n = random.nextInt(3) == 0 ? random.nextInt(11) - 1 : upTo(3);
        both("row(" + kind + ", " + n + ")", x -> x.row(kind, n), y -> y.row(kind, n));
    }

    private void anyArg() {
        arg(random.nextInt(3) == 0 ? random.nextInt(18) : kind());
    }

    private void arg(int kind) {
        long bits = bits();
        both("arg(" + kind + ", " + bits + ")", x -> x.arg(kind, bits), y -> y.arg(kind, bits));
    }

    private void anyGive() {
        int kind = kind();
        int thing = upTo(y.things.size()) - 1;
        give(kind, thing);
    }

    private void give(int kind, int thing) {
        both("give(" + kind + ", " + thing + ")", x -> x.give(kind, thing), y -> y.give(kind, thing));
    }

    /** A value of a kind comes, if there is one. */
    private void valueOf(int kind) {
        if (kind < 8 || kind >= 10 && kind < 18 && random.nextInt(4) != 0) {
            arg(kind);
            return;
        }
        for (int i = 0; i < 12 && !y.things.isEmpty(); i++) {
            int thing = random.nextInt(y.things.size());
            if (Model.is(y.things.get(thing).kind, kind)) {
                give(kind, thing);
                return;
            }
        }
        if (random.nextInt(4) != 0 && kind >= 30 && kind < 35 && random.nextBoolean()) object();
        give(kind, -1);
    }

    // ---- members

    private void members() {
        switch (random.nextInt(10)) {
            case 0: nest(); break;
            case 1: case 2: field(); break;
            case 3: maker(); break;
            default: method();
        }
    }

    private void nest() {
        int c = upTo(4);
        int n = upTo(4);
        both("nest(" + c + ", " + n + ")", x -> x.nest(c, n), y -> y.nest(c, n));
    }

    private void method() {
        int c = upTo(4);
        int name = random.nextInt(4) == 0 ? upTo(15) : random.nextInt(2);
        int marks = random.nextInt(3) == 0 ? upTo(7) : random.nextInt(2);
        int act = random.nextInt(3) == 0 ? 0 : upTo(7);
        long shape = methodShape(act);
        both("method(" + c + ", " + name + ", " + marks + ", " + act + ", " + shape + ")",
            x -> x.method(c, name, marks, act, shape), y -> y.method(c, name, marks, act, shape));
    }

    /** A shape that fits the act, mostly; now and then one that a method has already. */
    private long methodShape(int act) {
        if (random.nextInt(4) == 0 && !y.members.isEmpty()) return y.members.get(random.nextInt(y.members.size())).shape.told();
        if (random.nextInt(6) == 0) return anyShape(5);
        if (act == 1) return shape(kind() & 127, kind() & 127, kind() & 127);
        if (act == 2) return shape(kind() & 127, row(), random.nextBoolean() ? INT : kind() & 127);
        if (act == 3) return shape(kind() & 127, row(), random.nextBoolean() ? INT : kind() & 127, kind() & 127);
        return anyShape(3);
    }

    private void field() {
        int c = upTo(4);
        int name = random.nextInt(4) == 0 ? upTo(15) : random.nextInt(2);
        int marks = random.nextBoolean() ? 0 : upTo(11);
        int kind = kind();
        both("field(" + c + ", " + name + ", " + marks + ", " + kind + ")",
            x -> x.field(c, name, marks, kind), y -> y.field(c, name, marks, kind));
    }

    private void maker() {
        int c = upTo(4);
        int marks = upTo(6);
        long shape = seldom() ? anyShape(5) : anyShape(3) & ~255L | NOTHING + 1;
        both("maker(" + c + ", " + marks + ", " + shape + ")", x -> x.maker(c, marks, shape), y -> y.maker(c, marks, shape));
    }

    // ---- handles

    private void handles() {
        switch (random.nextInt(20)) {
            case 0: case 1: case 2: case 3: case 4: find(); break;
            case 5: as(); break;
            case 6: bind(); break;
            case 7: drop(); break;
            case 8: permute(); break;
            case 9: filter(); break;
            case 10: fold(); break;
            case 11: after(); break;
            case 12: guard(); break;
            case 13: case 14: caught(); break;
            case 15: spread(); break;
            case 16: collect(); break;
            case 17: variedOrSite(); break;
            case 18: target(); break;
            default: leaf();
        }
    }

    private void find() {
        if (y.members.isEmpty()) {
            leaf();
            return;
        }
        Model.Member member = y.members.get(random.nextInt(y.members.size()));
        int own = member.sort == 'N' ? 3 : member.sort == 'F' ? 4 + random.nextInt(2) : member.has(STATIC) ? 1 : 2 * random.nextInt(2);
        int how = random.nextInt(10) == 0 ? upTo(5) : own;
        int c = random.nextInt(3) == 0 ? upTo(4) : member.c;
        int asker = random.nextInt(3) == 0 ? upTo(4) : c;
        int name = seldom() ? upTo(15) : member.name;
        long shape = random.nextInt(12) == 0 ? anyShape(6) : member.shape.told();
        both("find(" + how + ", " + c + ", " + name + ", " + shape + ", " + asker + ")",
            x -> x.find(how, c, name, shape, asker), y -> y.find(how, c, name, shape, asker));
    }

    private void as() {
        int h = handle();
        long shape = turnedShape(shapeOf(h));
        both("as(" + h + ", " + shape + ")", x -> x.as(h, shape), y -> y.as(h, shape));
    }

    /** A shape that another one may be adapted to, mostly. */
    private long turnedShape(Model.Shape from) {
        if (random.nextInt(8) == 0) return anyShape(6);
        List<Integer> parameters = new ArrayList<>(from.parameters);
        if (random.nextInt(3) == 0 && from.endsWithRow()) {
            int row = parameters.remove(parameters.size() - 1);
            int n = random.nextInt(Math.min(4, 7 - parameters.size()));
            for (int i = 0; i < n; i++) parameters.add(Model.elementOf(row));
        }
        parameters.replaceAll(kind -> random.nextBoolean() ? kind : kindTurning(kind, false));
        return new Model.Shape(random.nextBoolean() ? from.result : kindTurning(from.result, true), parameters).told();
    }

    private int kindTurning(int kind, boolean from) {
        for (int i = 0; i < 8; i++) {
            int other = KINDS[random.nextInt(KINDS.length)];
            if (other != NOTHING && (from ? Model.canTurn(kind, other) : Model.canTurn(other, kind))) return other;
        }
        return kind;
    }

    private void bind() {
        int h = handle();
        int at = place(h);
        if (random.nextInt(5) != 0 && at >= 0 && at < shapeOf(h).size()) valueOf(bindable(shapeOf(h).parameters.get(at)));
        both("bind(" + h + ", " + at + ")", x -> x.bind(h, at), y -> y.bind(h, at));
    }

    private int bindable(int kind) {
        if (kind < 8) return random.nextBoolean() ? kind : random.nextBoolean() ? 10 + kind : THING;
        return kind == THING || kind == NUMBER ? kindTurning(kind, false) : kind;
    }

    private int place(int h) {
        return upTo(Math.max(shapeOf(h).size() - 1, 0));
    }

    private void drop() {
        int h = handle();
        int at = upTo(shapeOf(h).size());
        int kind = kind();
        both("drop(" + h + ", " + at + ", " + kind + ")", x -> x.drop(h, at, kind), y -> y.drop(h, at, kind));
    }

    private void permute() {
        int h = handle();
        Model.Shape own = shapeOf(h);
        int order = 0;
        int power = 1;
        int[] parameters = new int[Math.min(6, own.size() + random.nextInt(2))];
        for (int i = 0; i < parameters.length; i++) parameters[i] = seldom() || i >= own.size() ? INT : own.parameters.get(i);
        for (int i = 0; i < own.size(); i++) {
            order += power * sameKind(parameters, own.parameters.get(i));
            power *= 10;
        }
        if (seldom()) order += power * random.nextInt(10);
        int asked = seldom() ? edge() : order;
        long shape = seldom() ? anyShape(6) : shape(seldom() ? kind() & 127 : own.result, parameters);
        both("permute(" + h + ", " + asked + ", " + shape + ")", x -> x.permute(h, asked, shape), y -> y.permute(h, asked, shape));
    }

    private int sameKind(int[] parameters, int kind) {
        for (int i = 0; i < 20; i++) {
            int at = random.nextInt(parameters.length);
            if (parameters[at] == kind) return at;
        }
        return random.nextInt(10);
    }

    private void filter() {
        int h = handle();
        int at = place(h);
        int g = at >= 0 && at < shapeOf(h).size() ? handleFor(shapeOf(h).parameters.get(at), -1) : handle();
        both("filter(" + h + ", " + at + ", " + g + ")", x -> x.filter(h, at, g), y -> y.filter(h, at, g));
    }

    private void fold() {
        int h = handle();
        int first = shapeOf(h).size() > 0 && random.nextInt(3) != 0 ? shapeOf(h).parameters.get(0) : NOTHING;
        int g = handleFor(first, -1);
        both("fold(" + h + ", " + g + ")", x -> x.fold(h, g), y -> y.fold(h, g));
    }

    private void after() {
        int h = handle();
        int g = handleFor(-1, shapeOf(h).result == NOTHING ? -1 : shapeOf(h).result);
        both("after(" + h + ", " + g + ")", x -> x.after(h, g), y -> y.after(h, g));
    }

    private void guard() {
        int test = handleFor(TRUTH, -1);
        int h = shapeOf(test).size() == 0 ? handle() : handleFor(-1, shapeOf(test).parameters.get(0));
        int g = handleLike(shapeOf(h));
        both("guard(" + test + ", " + h + ", " + g + ")", x -> x.guard(test, h, g), y -> y.guard(test, h, g));
    }

    private void caught() {
        int h = handle();
        int failure = random.nextBoolean() ? 0 : upTo(8);
        if (random.nextInt(3) == 0) dropInt();
        int g = handleFor(shapeOf(h).result, INT);
        both("caught(" + h + ", " + failure + ", " + g + ")", x -> x.caught(h, failure, g), y -> y.caught(h, failure, g));
    }

    private void dropInt() {
        int h = handle();
        both("drop(" + h + ", 0, 4)", x -> x.drop(h, 0, INT), y -> y.drop(h, 0, INT));
    }

    private void spread() {
        int h = handle();
        int n = upTo(shapeOf(h).size());
        int kind = row();
        both("spread(" + h + ", " + kind + ", " + n + ")", x -> x.spread(h, kind, n), y -> y.spread(h, kind, n));
    }

    private void collect() {
        int h = handle();
        Model.Shape shape = shapeOf(h);
        int kind = shape.endsWithRow() && random.nextInt(4) != 0 ? shape.last() : row();
        int n = upTo(Math.max(0, 7 - shape.size()));
        both("collect(" + h + ", " + kind + ", " + n + ")", x -> x.collect(h, kind, n), y -> y.collect(h, kind, n));
    }

    private void variedOrSite() {
        int h = handle();
        if (random.nextBoolean()) both("varied(" + h + ")", x -> x.varied(h), y -> y.varied(h));
        else both("site(" + h + ")", x -> x.site(h), y -> y.site(h));
    }

    private void target() {
        int s = handle();
        for (int i = 0; i < 30 && s >= 0 && s < y.handles.size() && !y.handles.get(s).site; i++) s = handle();
        int site = s;
        int h = handleLike(shapeOf(site));
        both("target(" + site + ", " + h + ")", x -> x.target(site, h), y -> y.target(site, h));
    }

    private void leaf() {
        int kind = kind();
        int what = upTo(3);
        int row = row();
        switch (random.nextInt(4)) {
            case 0: both("element(" + what + ", " + row + ")", x -> x.element(what, row), y -> y.element(what, row)); break;
            case 1: both("constant()", HandleMirror::constant, Model::constant); break;
            default: both("same(" + kind + ")", x -> x.same(kind), y -> y.same(kind));
        }
    }

    // ---- runs

    private void runs() {
        switch (random.nextInt(12)) {
            case 0: anyRun(); break;
            case 1: case 2: case 3: fittedDirect(); break;
            default: fittedRun();
        }
        if (random.nextInt(6) == 0) keep();
    }

    private void anyRun() {
        run(handle(), random.nextBoolean(), kind());
    }

    private void run(int h, boolean exact, int kind) {
        both("run(" + h + ", " + exact + ", " + kind + ")", x -> x.run(h, exact, kind), y -> y.run(h, exact, kind));
        heardOfRun();
    }

    private void heardOfRun() {
        for (int what = 0; what < 4; what++) {
            int asked = what;
            if (random.nextInt(3) == 0) both("last(" + what + ")", x -> x.last(asked), y -> y.last(asked));
        }
        for (int what = 1; what < 3; what++) {
            int asked = what;
            if (random.nextInt(3) == 0) both("result(" + what + ")", x -> x.result(asked), y -> y.result(asked));
        }
    }

    private void fittedRun() {
        int h = handle();
        boolean exact = random.nextInt(3) == 0;
        run(h, exact, valuesFor(shapeOf(h), exact));
    }

    private void fittedDirect() {
        if (y.members.isEmpty()) return;
        int m = upTo(y.members.size() - 1);
        Model.Member member = m >= 0 && m < y.members.size() ? y.members.get(m) : y.members.get(0);
        List<Integer> parameters = new ArrayList<>(member.shape.parameters);
        if (member.sort != 'N' && !member.has(STATIC)) parameters.add(0, 30 + member.c);
        int result = member.sort == 'N' ? 30 + member.c : member.shape.result;
        int kind = valuesFor(new Model.Shape(result, parameters), false);
        both("direct(" + m + ", " + kind + ")", x -> x.direct(m, kind), y -> y.direct(m, kind));
        heardOfRun();
    }

    /** ARGS for a shape; the kind to be asked for. */
    private int valuesFor(Model.Shape shape, boolean exact) {
        if (!y.args.isEmpty() && random.nextInt(20) != 0) both("forget()", HandleMirror::forget, Model::forget);
        long asked = exact ? shape.told() : turnedShape(shape);
        for (int i = 1; i < 7; i++) {
            int kind = (int) (asked >>> 8 * i & 255) - 1;
            if (kind >= 0) valueOf(kind);
        }
        return seldom() ? kind() : (int) (asked & 255) - 1;
    }

    /** What came is named, and looked into. */
    private void keep() {
        int thing = (int) both("keep()", HandleMirror::keep, Model::keep);
        if (thing < 0 || wrong || thing >= y.things.size()) return;
        toldOf(thing, 1, 0);
        Object[] elements = y.things.get(thing).elements;
        for (int i = 0; elements != null && i < elements.length; i++) toldOf(thing, 2, i);
    }

    private void toldOf(int thing, int what, int i) {
        both("told(" + thing + ", " + what + ", " + i + ")", x -> x.told(thing, what, i), y -> y.told(thing, what, i));
    }

    private void asks() {
        int what = upTo(3);
        int h = handle();
        int thing = upTo(y.things.size()) - 1;
        int i = random.nextInt(3) == 0 ? upTo(24) : upTo(8);
        int counted = upTo(20);
        switch (random.nextInt(8)) {
            case 0: both("shape(" + h + ")", x -> x.shape(h), y -> y.shape(h)); break;
            case 1: both("count(" + counted + ")", x -> x.count(counted), y -> y.count(counted)); break;
            case 2: both("last(" + what + ")", x -> x.last(what), y -> y.last(what)); break;
            case 3: both("result(" + what + ")", x -> x.result(what), y -> y.result(what)); break;
            default: toldOf(thing, what, i);
        }
    }

    // ---- runs that come to the limits

    /** As many things, members or handles as there may be, or nearly so. */
    private void crowd() {
        int sort = random.nextInt(3);
        int amount = sort == 1 ? 60 : 50 + random.nextInt(11);
        for (int i = 0; i < amount; i++) {
            if (sort == 1) members();
            else if (sort == 0) object();
            else both("same(4)", x -> x.same(INT), y -> y.same(INT));
        }
    }

    /** Handle 4 makes things in a circle until its steps are spent; after some runs no more are made. */
    private void spinMade() {
        long four = shape(THING, THING, THING, THING, THING);
        both("method", x -> x.method(0, 0, 1, 0, four), y -> y.method(0, 0, 1, 0, four));
        both("find", x -> x.find(1, 0, 0, four, 0), y -> y.find(1, 0, 0, four, 0));
        long asked = shape(NOTHING, INT, LONG, TRUTH, DOUBLE);
        both("as", x -> x.as(0, asked), y -> y.as(0, asked));
        circle(1);
        int spins = 25 + random.nextInt(12);
        for (int i = 0; i < spins; i++) {
            for (int kind : new int[] {INT, LONG, TRUTH, DOUBLE}) {
                both("arg(" + kind + ", 1)", x -> x.arg(kind, 1), y -> y.arg(kind, 1));
            }
            run(2, false, NOTHING);
        }
    }

    /** Handle 5 fails, and is caught, in a circle. */
    private void spinFailures() {
        long none = shape(NOTHING);
        both("method", x -> x.method(0, 0, 1, 4, none), y -> y.method(0, 0, 1, 4, none));
        both("find", x -> x.find(1, 0, 0, none, 0), y -> y.find(1, 0, 0, none, 0));
        both("drop", x -> x.drop(0, 0, INT), y -> y.drop(0, 0, INT));
        long one = shape(NOTHING);
        both("method", x -> x.method(0, 1, 1, 0, one), y -> y.method(0, 1, 1, 0, one));
        both("find", x -> x.find(1, 0, 1, one, 0), y -> y.find(1, 0, 1, one, 0));
        both("drop", x -> x.drop(2, 0, INT), y -> y.drop(2, 0, INT));
        both("caught", x -> x.caught(0, 0, 3), y -> y.caught(0, 0, 3));
        circle(4);
        int spins = 80 + random.nextInt(60);
        for (int i = 0; i < spins; i++) run(5, true, NOTHING);
    }

    /** A site that works a handle, and then itself. */
    private void circle(int h) {
        int site = (int) both("site", x -> x.site(h), y -> y.site(h));
        int folded = (int) both("fold", x -> x.fold(site, h), y -> y.fold(site, h));
        both("target", x -> x.target(site, folded), y -> y.target(site, folded));
    }
}
