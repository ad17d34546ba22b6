import java.util.ArrayList;

/**
 * Handles on members of classes, looked up, turned round and run against values of all kinds.
 * The numbered promises that this class keeps stand in the document DOC.md.
 *
 * A value is a long everywhere: the bits of a PLAIN one (a FLOAT's as an int), else a reference,
 * which is 0 for NONE. So 0 is what every new element and every new field holds, whatever its kind.
 */
public final class HandleMirror {
    public static final int NONE = -1, UNKNOWN = -101, OUTSIDE = -102, STATE = -103, FULL = -104,
            NO_METHOD = -111, NO_FIELD = -112, NO_ACCESS = -113, WRONG_TYPE = -114;

    private static final int MOST_ARGS = 6, MOST_HANDLES = 60, MOST_FAILURES = 4000;
    private static final int LONGEST_ROW = 8, LARGEST_NAME = 15, UNNUMBERED = -2;
    // a run has at most 200 steps, and none of them takes more than a handful of turns
    private static final int MOST_TURNS = 1000000;

    private final Trouble trouble;
    private final Heap heap;
    private final Members members;
    private final Machine machine;
    private final Handle[] handles;
    private final int[] argKinds;
    private final long[] argValues;
    private int handleCount;
    private int argCount;
    private boolean hasResult;
    private int resultKind;
    private long resultValue;

    public HandleMirror() {
        trouble = new Trouble();
        heap = new Heap(trouble);
        members = new Members();
        machine = new Machine(heap, trouble, members);
        handles = new Handle[MOST_HANDLES];
        argKinds = new int[MOST_ARGS];
        argValues = new long[MOST_ARGS];
    }

    // ---- things, args

    public int object(int c, int tag) {
        if (!Kinds.isClassNumber(c)) return OUTSIDE;
        if (!heap.canName()) return FULL;
        return heap.named(heap.newThing(Kinds.CLASS + c, tag, Members.MOST_FIELDS));
    }

    public int row(int kind, int n) {
        if (!Kinds.isRow(kind) || n > LONGEST_ROW) return OUTSIDE;
        if (!heap.canName()) return FULL;
        if (n < 0) return -Trouble.SIZE;
        return heap.named(heap.newThing(kind, n, n));
    }

    public int arg(int kind, long bits) {
        boolean box = Kinds.isBox(kind);
        int plain = box ? kind - Kinds.BOX : kind;
        if (!Kinds.isPlain(plain) || !Numbers.isNumber(plain, bits)) return OUTSIDE;
        if (argCount >= MOST_ARGS || box && !heap.hasRoom()) return FULL;
        long value = Numbers.ofBits(plain, bits);
        return addArg(kind, box ? heap.newThing(kind, value, 0) : value);
    }

    public int give(int kind, int thing) {
        Thing given = heap.thingNumbered(thing);
        if (given == null && thing != NONE) return UNKNOWN;
        if (!Kinds.isReference(kind)) return OUTSIDE;
        if (argCount >= MOST_ARGS) return FULL;
        if (given == null) return addArg(kind, 0);
        return Kinds.isA(given.kind, kind) ? addArg(kind, given.reference) : -Trouble.CAST;
    }

    private int addArg(int kind, long value) {
        if (argCount < 0 || argCount >= argKinds.length || argCount >= argValues.length) return FULL;
        argKinds[argCount] = kind;
        argValues[argCount] = value;
        argCount++;
        return argCount;
    }

    public int forget() {
        int went = argCount;
        argCount = 0;
        return went;
    }

    public long told(int thing, int what, int i) {
        Thing asked = heap.thingNumbered(thing);
        if (asked == null && thing != NONE) return UNKNOWN;
        if (what < 0 || what > 3 || asked == null && what != 3) return OUTSIDE;
        if (what == 3) return toldField(asked, members.memberAt(i));
        if (what == 0) return asked.kind;
        if (what == 1) return asked.bits;
        if (!Kinds.isRow(asked.kind) || !asked.hasPart(i)) return 0;
        return toldValue(Kinds.elementOf(asked.kind), asked.parts[i]);
    }

    private long toldField(Thing asked, Member member) {
        if (member == null || member.sort != Member.FIELD) return 0;
        if (member.isStatic() != (asked == null)) return 0;
        if (asked != null && !Kinds.isA(asked.kind, Kinds.CLASS + member.owner)) return 0;
        return toldValue(Shapes.resultOf(member.shape), member.valueIn(asked));
    }

    private long toldValue(int kind, long value) {
        if (Kinds.isPlain(kind)) return value;
        if (value == 0) return NONE;
        Thing held = heap.thingAt(value);
        return held == null || held.number < 0 ? UNNUMBERED : held.number;
    }

    // ---- members

    public int nest(int c, int n) {
        if (!Kinds.isClassNumber(c) || !Kinds.isClassNumber(n)) return OUTSIDE;
        int was = members.nestOf(c);
        members.setNest(c, n);
        return was;
    }

    public int method(int c, int name, int marks, int act, long shape) {
        if (!Kinds.isClassNumber(c) || !isName(name) || (marks & ~Member.METHOD_MARKS) != 0) return OUTSIDE;
        if (act < 0 || act > Acts.WEIGHT || !isMemberShape(shape, marks)) return OUTSIDE;
        if (!Acts.fits(act, marks, shape)) return OUTSIDE;
        if (members.inClass(Member.METHOD, c, name, shape) != null) return STATE;
        return members.added(Member.METHOD, c, name, marks, act, shape);
    }

    public int field(int c, int name, int marks, int kind) {
        if (!Kinds.isClassNumber(c) || !isName(name) || (marks & ~Member.FIELD_MARKS) != 0) return OUTSIDE;
        if (!Kinds.isHeld(kind)) return OUTSIDE;
        long shape = Shapes.bringing(kind);
        if (members.inClass(Member.FIELD, c, name, shape) != null) return STATE;
        return members.added(Member.FIELD, c, name, marks, 0, shape);
    }

    public int maker(int c, int marks, long shape) {
        if (!Kinds.isClassNumber(c) || (marks & ~Member.MAKER_MARKS) != 0) return OUTSIDE;
        if (!isMemberShape(shape, marks) || Shapes.resultOf(shape) != Kinds.NOTHING) return OUTSIDE;
        if (members.inClass(Member.MAKER, c, 0, shape) != null) return STATE;
        return members.added(Member.MAKER, c, 0, marks, 0, shape);
    }

    private static boolean isName(int name) {
        return name >= 0 && name <= LARGEST_NAME;
    }

    private static boolean isMemberShape(long shape, int marks) {
        if (!Shapes.isShape(shape) || Shapes.sizeOf(shape) > Member.MOST_PARAMETERS) return false;
        return (marks & Member.VARIED) == 0 || Kinds.isRow(Shapes.lastOf(shape));
    }

    // ---- handles

    public int find(int how, int c, int name, long shape, int asker) {
        if (!isQuestion(how, c, name, shape, asker)) return OUTSIDE;
        if (how == Handle.SPECIAL && !Kinds.isBelow(asker, c)) return NO_ACCESS;
        int sort = how == Handle.MAKER ? Member.MAKER : how > Handle.MAKER ? Member.FIELD : Member.METHOD;
        Member member = sort == Member.MAKER ? members.inClass(sort, c, 0, shape)
                : members.inOrAbove(sort, c, name, shape);
        if (member == null) return sort == Member.FIELD ? NO_FIELD : NO_METHOD;
        if (!members.mayUse(member, how, asker)) return NO_ACCESS;
        return addHandle(Handle.on(member, how, how == Handle.SPECIAL ? asker : c));
    }

    private static boolean isQuestion(int how, int c, int name, long shape, int asker) {
        if (how < Handle.VIRTUAL || how > Handle.SETTER) return false;
        if (!Kinds.isClassNumber(c) || !Kinds.isClassNumber(asker) || !Shapes.isShape(shape)) return false;
        if (how == Handle.MAKER) return Shapes.resultOf(shape) == Kinds.NOTHING;
        return isName(name) && (how < Handle.MAKER || isFieldShape(shape));
    }

    /** A field is asked for by its kind as a result, and NOTHING is no field's kind. */
    private static boolean isFieldShape(long shape) {
        return Shapes.sizeOf(shape) == 0 && Kinds.isHeld(Shapes.resultOf(shape));
    }

    private Handle handleAt(int h) {
        return h >= 0 && h < handleCount && h < handles.length ? handles[h] : null;
    }

    private int addHandle(Handle handle) {
        if (handleCount < 0 || handleCount >= handles.length) return FULL;
        handle.number = handleCount;
        handles[handleCount] = handle;
        handleCount++;
        return handle.number;
    }

    public int as(int h, long shape) {
        Handle inner = handleAt(h);
        if (inner == null) return UNKNOWN;
        if (!Shapes.isShape(shape)) return OUTSIDE;
        Handle adapted = Handle.adapted(inner, shape);
        if (adapted == null) return WRONG_TYPE;
        return adapted == inner ? h : addHandle(adapted);
    }

    public int bind(int h, int at) {
        Handle inner = handleAt(h);
        if (inner == null) return UNKNOWN;
        if (at < 0 || at >= Shapes.sizeOf(inner.shape)) return OUTSIDE;
        if (argCount <= 0 || argCount > argKinds.length || argCount > argValues.length) return STATE;
        if (handleCount >= MOST_HANDLES) return FULL;
        int kind = Shapes.kindAt(inner.shape, at);
        int argKind = argKinds[argCount - 1];
        long value = argValues[argCount - 1];
        int refusal = heap.bindRefusal(argKind, value, kind);
        if (refusal != 0) return refusal;
        Handle bound = new Handle(Handle.BOUND, Shapes.without(inner.shape, at), inner);
        bound.at = at;
        bound.value = heap.bound(argKind, value, kind);
        argCount--;
        return addHandle(bound);
    }

    public int drop(int h, int at, int kind) {
        Handle inner = handleAt(h);
        if (inner == null) return UNKNOWN;
        int size = Shapes.sizeOf(inner.shape);
        if (at < 0 || at > size || !Kinds.isHeld(kind) || size >= Shapes.MOST_PARAMETERS) return OUTSIDE;
        Handle dropping = new Handle(Handle.DROPPING, Shapes.with(inner.shape, at, kind), inner);
        dropping.at = at;
        return addHandle(dropping);
    }

    public int permute(int h, int order, long shape) {
        Handle inner = handleAt(h);
        if (inner == null) return UNKNOWN;
        if (!Shapes.isShape(shape) || !isOrder(order, Shapes.sizeOf(inner.shape), Shapes.sizeOf(shape))) return OUTSIDE;
        if (!isPermuted(inner.shape, order, shape)) return WRONG_TYPE;
        Handle permuting = new Handle(Handle.PERMUTING, shape, inner);
        permuting.at = order;
        return addHandle(permuting);
    }

    private static boolean isOrder(int order, int digits, int size) {
        if (order < 0) return false;
        int rest = order;
        for (int i = 0; i < digits; i++) {
            if (rest % 10 >= size) return false;
            rest /= 10;
        }
        return rest == 0;
    }

    private static boolean isPermuted(long inner, int order, long shape) {
        int size = Shapes.sizeOf(inner);
        int rest = order;
        for (int i = 0; i < size; i++) {
            if (Shapes.kindAt(shape, rest % 10) != Shapes.kindAt(inner, i)) return false;
            rest /= 10;
        }
        return Shapes.resultOf(shape) == Shapes.resultOf(inner);
    }

    public int filter(int h, int at, int g) {
        Handle inner = handleAt(h);
        Handle other = handleAt(g);
        if (inner == null || other == null) return UNKNOWN;
        if (at < 0 || at >= Shapes.sizeOf(inner.shape)) return OUTSIDE;
        if (Shapes.sizeOf(other.shape) != 1) return WRONG_TYPE;
        if (Shapes.resultOf(other.shape) != Shapes.kindAt(inner.shape, at)) return WRONG_TYPE;
        long shape = Shapes.with(Shapes.without(inner.shape, at), at, Shapes.kindAt(other.shape, 0));
        Handle filtering = new Handle(Handle.FILTERING, shape, inner);
        filtering.other = other;
        filtering.at = at;
        return addHandle(filtering);
    }

    public int fold(int h, int g) {
        Handle inner = handleAt(h);
        Handle other = handleAt(g);
        if (inner == null || other == null) return UNKNOWN;
        int brought = Shapes.resultOf(other.shape);
        long shape = inner.shape;
        if (brought != Kinds.NOTHING) {
            if (Shapes.kindAt(inner.shape, 0) != brought) return WRONG_TYPE;
            shape = Shapes.without(inner.shape, 0);
        }
        if (!Shapes.beginsWith(shape, other.shape)) return WRONG_TYPE;
        Handle folding = new Handle(Handle.FOLDING, shape, inner);
        folding.other = other;
        return addHandle(folding);
    }

    public int after(int h, int g) {
        Handle inner = handleAt(h);
        Handle other = handleAt(g);
        if (inner == null || other == null) return UNKNOWN;
        int brought = Shapes.resultOf(inner.shape);
        int wanted = brought == Kinds.NOTHING ? 0 : 1;
        if (Shapes.sizeOf(other.shape) != wanted) return WRONG_TYPE;
        if (wanted == 1 && Shapes.kindAt(other.shape, 0) != brought) return WRONG_TYPE;
        long shape = Shapes.withResult(inner.shape, Shapes.resultOf(other.shape));
        Handle following = new Handle(Handle.FOLLOWING, shape, inner);
        following.other = other;
        return addHandle(following);
    }

    public int guard(int test, int h, int g) {
        Handle asked = handleAt(test);
        Handle inner = handleAt(h);
        Handle other = handleAt(g);
        if (asked == null || inner == null || other == null) return UNKNOWN;
        if (Shapes.resultOf(asked.shape) != Kinds.TRUTH || inner.shape != other.shape) return WRONG_TYPE;
        if (!Shapes.beginsWith(inner.shape, asked.shape)) return WRONG_TYPE;
        Handle guarding = new Handle(Handle.GUARDING, inner.shape, inner);
        guarding.other = other;
        guarding.test = asked;
        return addHandle(guarding);
    }

    public int caught(int h, int failure, int g) {
        Handle inner = handleAt(h);
        Handle other = handleAt(g);
        if (inner == null || other == null) return UNKNOWN;
        if (failure < 0 || failure > Trouble.LAST_CAUGHT) return OUTSIDE;
        if (Shapes.resultOf(other.shape) != Shapes.resultOf(inner.shape)) return WRONG_TYPE;
        if (Shapes.kindAt(other.shape, 0) != Kinds.INT) return WRONG_TYPE;
        if (!Shapes.beginsWith(inner.shape, Shapes.without(other.shape, 0))) return WRONG_TYPE;
        Handle catching = new Handle(Handle.CATCHING, inner.shape, inner);
        catching.other = other;
        catching.at = failure;
        return addHandle(catching);
    }

    public int spread(int h, int kind, int n) {
        Handle inner = handleAt(h);
        if (inner == null) return UNKNOWN;
        int size = Shapes.sizeOf(inner.shape);
        if (!Kinds.isRow(kind) || n < 0 || n > size || size - n >= Shapes.MOST_PARAMETERS) return OUTSIDE;
        long shape = inner.shape;
        for (int i = size - 1; i >= size - n; i--) {
            if (!Kinds.canTurn(Kinds.elementOf(kind), Shapes.kindAt(inner.shape, i))) return WRONG_TYPE;
            shape = Shapes.without(shape, i);
        }
        Handle spreading = new Handle(Handle.SPREADING, Shapes.with(shape, size - n, kind), inner);
        spreading.kind = kind;
        spreading.amount = n;
        return addHandle(spreading);
    }

    public int collect(int h, int kind, int n) {
        Handle inner = handleAt(h);
        if (inner == null) return UNKNOWN;
        int others = Math.max(Shapes.sizeOf(inner.shape) - 1, 0);
        if (!Kinds.isRow(kind) || n < 0 || n > Shapes.MOST_PARAMETERS - others) return OUTSIDE;
        if (!Kinds.isA(kind, Shapes.lastOf(inner.shape))) return WRONG_TYPE;
        return addHandle(Handle.collecting(inner, kind, n));
    }

    public int varied(int h) {
        Handle inner = handleAt(h);
        if (inner == null) return UNKNOWN;
        if (!Kinds.isRow(Shapes.lastOf(inner.shape))) return WRONG_TYPE;
        Handle passing = new Handle(Handle.PASSING, inner.shape, inner);
        passing.varied = true;
        return addHandle(passing);
    }

    public int element(int what, int kind) {
        if (what < 0 || what > Handle.NEW_ROW || !Kinds.isRow(kind)) return OUTSIDE;
        Handle element = new Handle(Handle.ELEMENT, Shapes.ofElement(what, kind), null);
        element.at = what;
        element.kind = kind;
        return addHandle(element);
    }

    public int constant() {
        if (argCount <= 0 || argCount > argKinds.length || argCount > argValues.length) return STATE;
        if (handleCount >= MOST_HANDLES) return FULL;
        argCount--;
        Handle constant = new Handle(Handle.CONSTANT, Shapes.bringing(argKinds[argCount]), null);
        constant.value = argValues[argCount];
        return addHandle(constant);
    }

    public int same(int kind) {
        if (!Kinds.isHeld(kind)) return OUTSIDE;
        return addHandle(new Handle(Handle.SAME, Shapes.with(Shapes.bringing(kind), 0, kind), null));
    }

    public int site(int h) {
        Handle inner = handleAt(h);
        if (inner == null) return UNKNOWN;
        return addHandle(new Handle(Handle.SITE, inner.shape, inner));
    }

    public int target(int s, int h) {
        Handle site = handleAt(s);
        Handle next = handleAt(h);
        if (site == null || next == null) return UNKNOWN;
        if (site.type != Handle.SITE || site.inner == null) return OUTSIDE;
        if (site.shape != next.shape) return WRONG_TYPE;
        int was = site.inner.number;
        site.inner = next;
        return was;
    }

    public long shape(int h) {
        Handle handle = handleAt(h);
        return handle == null ? UNKNOWN : handle.shape;
    }

    // ---- runs

    public int run(int h, boolean exact, int kind) {
        Handle handle = handleAt(h);
        return handle == null ? UNKNOWN : work(handle, exact, kind);
    }

    public int direct(int m, int kind) {
        Member member = members.memberAt(m);
        if (member == null) return UNKNOWN;
        return work(Handle.on(member, member.ownLookup(), member.owner), false, kind);
    }

    private int work(Handle handle, boolean exact, int kind) {
        if (!Kinds.isKind(kind)) return OUTSIDE;
        if (trouble.total >= MOST_FAILURES) return STATE;
        long asked = askedShape(kind);
        Handle worked = exact ? handle : Handle.adapted(handle, asked);
        if (worked == null || worked.shape != asked) return WRONG_TYPE;
        machine.start(worked, argValues, argCount);
        argCount = 0;
        for (int i = 0; i < MOST_TURNS && machine.depth > 0; i++) {
            Handle top = machine.top();
            if (trouble.pending != 0 || top == null) {
                machine.unwind();
            } else if (top.type <= Handle.SAME) {
                machine.turnAlone(top);
            } else {
                machine.turnAround(top);
            }
        }
        int failure = trouble.endRun();
        if (failure != 0) return -failure;
        hasResult = true;
        resultKind = kind;
        resultValue = machine.result;
        return 1;
    }

    private long askedShape(int kind) {
        long asked = Shapes.bringing(kind);
        for (int i = 0; i < argCount && i < argKinds.length; i++) asked = Shapes.with(asked, i, argKinds[i]);
        return asked;
    }

    public long result(int what) {
        if (!hasResult) return STATE;
        if (what < 0 || what > 2) return OUTSIDE;
        if (what == 0) return resultKind;
        if (resultKind == Kinds.NOTHING) return what == 1 ? Kinds.NOTHING : 0;
        if (Kinds.isPlain(resultKind)) return what == 1 ? resultKind : resultValue;
        Thing thing = heap.thingAt(resultValue);
        if (thing == null) return what == 1 ? NONE : 0;
        return what == 1 ? thing.kind : thing.bits;
    }

    public int keep() {
        if (!hasResult || !Kinds.isReference(resultKind)) return STATE;
        Thing thing = heap.thingAt(resultValue);
        if (thing == null) return STATE;
        if (thing.number >= 0) return thing.number;
        return heap.canName() ? heap.named(resultValue) : FULL;
    }

    public int last(int what) {
        switch (what) {
            case 0: return machine.steps;
            case 1: return trouble.inRun;
            case 2: return trouble.caughtInRun;
            case 3: return trouble.ended;
            default: return OUTSIDE;
        }
    }

    public int count(int what) {
        switch (what) {
            case 0: return heap.namedCount;
            case 1: return members.memberCount;
            case 2: return handleCount;
            case 3: return argCount;
            case 4: return heap.made;
            default: return what > 10 && what <= 10 + Trouble.NO_ROOM ? trouble.countOf(what - 10) : OUTSIDE;
        }
    }

    /** What is true of kinds as numbers. */
    private static final class Kinds {
        static final int TRUTH = 0, BYTE = 1, SHORT = 2, CHAR = 3, INT = 4, LONG = 5, FLOAT = 6, DOUBLE = 7;
        static final int NOTHING = 8, THING = 9, BOX = 10, NUMBER = 18, PLAIN_ROW = 20, CLASS = 30, CLASS_ROW = 40;
        static final int CLASSES = 5;
        private static final int[] PARENTS = {-1, 0, 0, 1, 2};

        static boolean isPlain(int kind) {
            return kind >= TRUTH && kind <= DOUBLE;
        }

        static boolean isBox(int kind) {
            return kind >= BOX && kind <= BOX + DOUBLE;
        }

        static boolean isClass(int kind) {
            return kind >= CLASS && kind < CLASS + CLASSES;
        }

        static boolean isClassRow(int kind) {
            return kind >= CLASS_ROW && kind < CLASS_ROW + CLASSES;
        }

        static boolean isRow(int kind) {
            return kind >= PLAIN_ROW && kind <= PLAIN_ROW + DOUBLE || kind >= CLASS_ROW && kind < CLASS_ROW + CLASSES;
        }

        static boolean isReference(int kind) {
            return kind >= THING && kind <= NUMBER || kind >= PLAIN_ROW && kind <= PLAIN_ROW + DOUBLE
                    || kind >= CLASS && kind < CLASS + CLASSES || kind >= CLASS_ROW && kind < CLASS_ROW + CLASSES;
        }

        /** Whether a parameter, a field or an element may be of this kind. */
        static boolean isHeld(int kind) {
            return isPlain(kind) || isReference(kind);
        }

        static boolean isKind(int kind) {
            return kind == NOTHING || isHeld(kind);
        }

        static boolean isClassNumber(int c) {
            return c >= 0 && c < CLASSES;
        }

        static int parentOf(int c) {
            return c >= 0 && c < PARENTS.length ? PARENTS[c] : -1;
        }

        /** Whether class c is class d, or below it. */
        static boolean isBelow(int c, int d) {
            int at = c;
            for (int i = 0; i < CLASSES && at >= 0 && at < PARENTS.length; i++) {
                if (at == d) return true;
                at = PARENTS[at];
            }
            return false;
        }

        static boolean isA(int kind, int other) {
            if (kind == other) return true;
            if (other == THING) return isReference(kind);
            if (other == NUMBER) return isBox(kind) && kind != BOX + TRUTH && kind != BOX + CHAR;
            if (isClass(kind) && isClass(other)) return isBelow(kind - CLASS, other - CLASS);
            return isClassRow(kind) && isClassRow(other) && isBelow(kind - CLASS_ROW, other - CLASS_ROW);
        }

        static int elementOf(int row) {
            return isClassRow(row) ? row - CLASS_ROW + CLASS : row - PLAIN_ROW;
        }

        /** Whether a plain kind is another one, or widens to it. */
        static boolean widens(int from, int to) {
            return from == to || from >= BYTE && from < to && to != CHAR;
        }

        static boolean canTurn(int from, int to) {
            if (from == NOTHING || to == NOTHING) return true;
            if (isPlain(from)) return isPlain(to) ? widens(from, to) : isA(BOX + from, to);
            if (!isPlain(to) || from == THING) return true;
            if (from == NUMBER) return to != TRUTH && to != CHAR;
            return isBox(from) && widens(from - BOX, to);
        }
    }

    /** Shapes as longs: a byte for the result, then one for each parameter. */
    private static final class Shapes {
        static final int MOST_PARAMETERS = 6;

        static boolean isShape(long shape) {
            if (!Kinds.isKind(resultOf(shape)) || shape >>> 8 * (MOST_PARAMETERS + 1) != 0) return false;
            int size = sizeOf(shape);
            for (int i = 0; i < size; i++) {
                if (!Kinds.isHeld(kindAt(shape, i))) return false;
            }
            return true;
        }

        static int resultOf(long shape) {
            return (int) (shape & 255) - 1;
        }

        /** How many parameters; a byte of 0 below the last one counts here, and is no kind above. */
        static int sizeOf(long shape) {
            for (int i = MOST_PARAMETERS; i > 0; i--) {
                if (shape >>> 8 * i != 0) return i;
            }
            return 0;
        }

        /** The kind of a parameter, -1 if there is none. */
        static int kindAt(long shape, int i) {
            return i < 0 || i >= MOST_PARAMETERS ? -1 : (int) (shape >>> 8 * (i + 1) & 255) - 1;
        }

        static int lastOf(long shape) {
            return kindAt(shape, sizeOf(shape) - 1);
        }

        static long bringing(int kind) {
            return kind + 1;
        }

        static long withResult(long shape, int kind) {
            return shape & ~255L | bringing(kind);
        }

        /** With one parameter more, ahead of that at: there have to be fewer than 6. */
        static long with(long shape, int at, int kind) {
            int place = 8 * (at + 1);
            long below = (1L << place) - 1;
            return shape & below | kind + 1L << place | (shape & ~below) << 8;
        }

        static long without(long shape, int at) {
            long below = (1L << 8 * (at + 1)) - 1;
            return shape & below | shape >>> 8 & ~below;
        }

        /** Whether the parameters of the other shape are the first ones of this one. */
        static boolean beginsWith(long shape, long other) {
            int size = sizeOf(other);
            for (int i = 0; i < size; i++) {
                if (kindAt(shape, i) != kindAt(other, i)) return false;
            }
            return true;
        }

        static long ofElement(int what, int row) {
            if (what == Handle.NEW_ROW) return with(bringing(row), 0, Kinds.INT);
            if (what == Handle.LENGTH) return with(bringing(Kinds.INT), 0, row);
            int element = Kinds.elementOf(row);
            boolean read = what == Handle.READ;
            long shape = with(with(bringing(read ? element : Kinds.NOTHING), 0, row), 1, Kinds.INT);
            return read ? shape : with(shape, 2, element);
        }
    }

    /** Plain values as bits. Floats are worked on as bits alone, as the library's way to and fro is not at hand. */
    private static final class Numbers {
        private static final int FLOAT_BITS = 23, FLOAT_BIAS = 127, DOUBLE_BITS = 52, DOUBLE_BIAS = 1023;
        private static final long SIGN = 1L << 63, DOUBLE_INFINITY = 2047L << DOUBLE_BITS;
        // a FLOAT is held as an int, so that its sign is the sign of the long too
        private static final long FLOAT_SIGN = -1L << 31;
        private static final long FLOAT_SIZE = 0x7fffffffL, FLOAT_INFINITY = 255L << FLOAT_BITS;

        /** Whether bits are not those of a float that is no number. */
        static boolean isNumber(int kind, long bits) {
            if (kind == Kinds.FLOAT) return (bits & FLOAT_SIZE) <= FLOAT_INFINITY;
            return kind != Kinds.DOUBLE || (bits & ~SIGN) <= DOUBLE_INFINITY;
        }

        static long ofBits(int kind, long bits) {
            switch (kind) {
                case Kinds.TRUTH: return bits & 1;
                case Kinds.BYTE: return (byte) bits;
                case Kinds.SHORT: return (short) bits;
                case Kinds.CHAR: return (char) bits;
                case Kinds.INT: case Kinds.FLOAT: return (int) bits;
                default: return bits;
            }
        }

        /** A long cast to a plain kind. */
        static long ofLong(int kind, long n) {
            return kind == Kinds.FLOAT || kind == Kinds.DOUBLE ? floating(kind, n) : ofBits(kind, n);
        }

        /** The float or double nearest to n (of two, the even one). */
        private static long floating(int kind, long n) {
            if (n == 0) return 0;
            int fractionBits = kind == Kinds.FLOAT ? FLOAT_BITS : DOUBLE_BITS;
            int bias = kind == Kinds.FLOAT ? FLOAT_BIAS : DOUBLE_BIAS;
            // the most negative long stays itself, and is right when it is read without a sign
            long size = n < 0 ? -n : n;
            int top = 63 - Long.numberOfLeadingZeros(size);
            int surplus = top - fractionBits;
            long digits = surplus <= 0 ? size << -surplus : size >>> surplus;
            if (surplus > 0) {
                long rest = size & (1L << surplus) - 1;
                long half = 1L << surplus - 1;
                if (rest > half || rest == half && (digits & 1) == 1) digits++;
            }
            // the leading digit is added to the exponent, so that a carry out of rounding is right too
            long bits = ((long) (top + bias - 1) << fractionBits) + digits;
            if (n > 0) return bits;
            return kind == Kinds.FLOAT ? bits | FLOAT_SIGN : bits | SIGN;
        }

        /** THE NUMBER of a plain value. */
        static long toLong(int kind, long bits) {
            if (kind != Kinds.FLOAT && kind != Kinds.DOUBLE) return bits;
            int fractionBits = kind == Kinds.FLOAT ? FLOAT_BITS : DOUBLE_BITS;
            int bias = kind == Kinds.FLOAT ? FLOAT_BIAS : DOUBLE_BIAS;
            // the exponent has one bit more than the bias
            int exponent = (int) (bits >>> fractionBits & 2 * bias + 1) - bias;
            if (exponent < 0) return 0;
            if (exponent >= 63) return bits < 0 ? SIGN : ~SIGN;
            long digits = bits & (1L << fractionBits) - 1 | 1L << fractionBits;
            int missing = exponent - fractionBits;
            long size = missing < 0 ? digits >>> -missing : digits << missing;
            return bits < 0 ? -size : size;
        }

        static long widened(int from, int to, long bits) {
            if (from == to || to < Kinds.FLOAT) return bits;
            return from == Kinds.FLOAT ? doubleOfFloat(bits) : floating(to, bits);
        }

        private static long doubleOfFloat(long bits) {
            long sign = bits & SIGN;
            long fraction = bits & (1L << FLOAT_BITS) - 1;
            long exponent = bits >>> FLOAT_BITS & 255;
            int shift = DOUBLE_BITS - FLOAT_BITS;
            if (exponent == 255) return sign | DOUBLE_INFINITY;
            if (exponent != 0) return sign | exponent + DOUBLE_BIAS - FLOAT_BIAS << DOUBLE_BITS | fraction << shift;
            if (fraction == 0) return sign;
            // the small floats without a leading digit have one as doubles
            int top = 63 - Long.numberOfLeadingZeros(fraction);
            long digits = fraction << DOUBLE_BITS - top & (1L << DOUBLE_BITS) - 1;
            return sign | top + DOUBLE_BIAS - FLOAT_BIAS + 1L - FLOAT_BITS << DOUBLE_BITS | digits;
        }
    }

    /** A box, a row or an object. */
    private static final class Thing {
        // boxes have no parts, and there may be thousands of them
        private static final long[] NO_PARTS = {};

        final int kind;
        final long reference;
        final int firstTag;
        final long[] parts;
        // a box's bits, an object's tag, a row's length
        long bits;
        int number;

        Thing(int kind, long reference, long bits, int size) {
            this.kind = kind;
            this.reference = reference;
            this.bits = bits;
            firstTag = (int) bits;
            parts = size > 0 ? new long[size] : NO_PARTS;
            number = -1;
        }

        boolean hasPart(int i) {
            return i >= 0 && i < parts.length;
        }
    }

    /** All things there are; and what is asked of values, and made. What goes wrong is raised, and 0 comes. */
    private static final class Heap {
        private static final int MOST_NAMED = 60, MOST_MADE = 8000;
        // more than 512 calls can bring; calls after those may not fill the list without end
        private static final int MOST_KEPT = MOST_MADE + MOST_NAMED + 1000;

        private final Trouble trouble;
        private final ArrayList<Thing> things;
        private final Thing[] named;
        int namedCount;
        int made;

        Heap(Trouble trouble) {
            this.trouble = trouble;
            things = new ArrayList<Thing>();
            named = new Thing[MOST_NAMED];
        }

        Thing thingAt(long reference) {
            return reference > 0 && reference <= things.size() ? things.get((int) reference - 1) : null;
        }

        Thing thingNumbered(int number) {
            return number >= 0 && number < namedCount && number < named.length ? named[number] : null;
        }

        boolean canName() {
            return namedCount >= 0 && namedCount < named.length;
        }

        /** The number of a thing that has none yet. */
        int named(long reference) {
            Thing thing = thingAt(reference);
            if (thing == null || !canName()) return FULL;
            thing.number = namedCount;
            named[namedCount] = thing;
            namedCount++;
            return thing.number;
        }

        /** Whether one more box may come that is neither named nor counted as made. */
        boolean hasRoom() {
            return things.size() < MOST_KEPT;
        }

        /** A thing that is not counted as made. */
        long newThing(int kind, long bits, int size) {
            things.add(new Thing(kind, things.size() + 1, bits, size));
            return things.size();
        }

        /** A thing that is counted as made. */
        long makeThing(int kind, long bits, int size) {
            if (made >= MOST_MADE) return trouble.raise(Trouble.NO_ROOM);
            made++;
            things.add(new Thing(kind, things.size() + 1, bits, size));
            return things.size();
        }

        /** The value of a kind that is made of a long. */
        long madeOf(long n, int kind) {
            if (kind == Kinds.NOTHING) return 0;
            if (Kinds.isPlain(kind)) return Numbers.ofLong(kind, n);
            if (Kinds.isClass(kind)) return makeThing(kind, (int) n, Members.MOST_FIELDS);
            if (Kinds.isRow(kind)) {
                int size = Math.min((int) n, LONGEST_ROW);
                return size < 0 ? trouble.raise(Trouble.SIZE) : makeThing(kind, size, size);
            }
            int plain = Kinds.isBox(kind) ? kind - Kinds.BOX : Kinds.LONG;
            return makeThing(Kinds.BOX + plain, Numbers.ofLong(plain, n), 0);
        }

        long numberOf(int kind, long value) {
            if (Kinds.isPlain(kind)) return Numbers.toLong(kind, value);
            Thing thing = thingAt(value);
            if (thing == null) return trouble.raise(Trouble.NULL);
            return Kinds.isBox(thing.kind) ? Numbers.toLong(thing.kind - Kinds.BOX, thing.bits) : thing.bits;
        }

        long turned(long value, int from, int to) {
            if (from == Kinds.NOTHING || to == Kinds.NOTHING) return 0;
            if (Kinds.isPlain(from)) {
                return Kinds.isPlain(to) ? Numbers.widened(from, to, value) : makeThing(Kinds.BOX + from, value, 0);
            }
            Thing thing = thingAt(value);
            if (!Kinds.isPlain(to)) {
                return thing == null || Kinds.isA(thing.kind, to) ? value : trouble.raise(Trouble.CAST);
            }
            if (thing == null) return trouble.raise(Trouble.NULL);
            int held = thing.kind - Kinds.BOX;
            if (!Kinds.isBox(thing.kind) || !Kinds.widens(held, to)) return trouble.raise(Trouble.CAST);
            return Numbers.widened(held, to, thing.bits);
        }

        /** The row at hand, null if that is no row, or the place is none of it. */
        private Thing rowWith(long row, int place) {
            Thing thing = thingAt(row);
            if (thing == null) {
                trouble.raise(Trouble.NULL);
                return null;
            }
            if (thing.hasPart(place)) return thing;
            trouble.raise(Trouble.INDEX);
            return null;
        }

        long elementAt(long row, int place) {
            Thing thing = rowWith(row, place);
            return thing == null ? 0 : thing.parts[place];
        }

        /** The row's length. */
        long stored(long row, int place, long value) {
            Thing thing = rowWith(row, place);
            if (thing == null) return 0;
            int kind = Kinds.elementOf(thing.kind);
            Thing held = Kinds.isPlain(kind) ? null : thingAt(value);
            if (held != null && !Kinds.isA(held.kind, kind)) return trouble.raise(Trouble.STORE);
            thing.parts[place] = value;
            return thing.parts.length;
        }

        void fillRow(long row, int place, long value) {
            Thing thing = thingAt(row);
            if (thing != null && thing.hasPart(place)) thing.parts[place] = value;
        }

        /** Why a value cannot be bound to a parameter: minus a failure, or 0. */
        int bindRefusal(int argKind, long value, int kind) {
            if (Kinds.isPlain(argKind)) {
                if (Kinds.isPlain(kind)) return argKind == kind ? 0 : -Trouble.CAST;
                if (made >= MOST_MADE) return -Trouble.NO_ROOM;
                return Kinds.isA(Kinds.BOX + argKind, kind) ? 0 : -Trouble.CAST;
            }
            Thing thing = thingAt(value);
            if (thing == null) return Kinds.isPlain(kind) ? -Trouble.NULL : 0;
            return Kinds.isA(thing.kind, Kinds.isPlain(kind) ? Kinds.BOX + kind : kind) ? 0 : -Trouble.CAST;
        }

        long bound(int argKind, long value, int kind) {
            if (Kinds.isPlain(argKind)) return Kinds.isPlain(kind) ? value : makeThing(Kinds.BOX + argKind, value, 0);
            Thing thing = thingAt(value);
            return Kinds.isPlain(kind) && thing != null ? thing.bits : value;
        }
    }

    /** A method, a field (its shape brings its kind) or a maker (its shape brings nothing). */
    private static final class Member {
        static final int METHOD = 0, FIELD = 1, MAKER = 2;
        static final int STATIC = 1, PRIVATE = 2, VARIED = 4, FINAL = 8;
        static final int METHOD_MARKS = STATIC | PRIVATE | VARIED;
        static final int FIELD_MARKS = STATIC | PRIVATE | FINAL;
        static final int MAKER_MARKS = PRIVATE | VARIED;
        static final int MOST_PARAMETERS = 4;

        final int sort;
        final int owner;
        final int name;
        final int marks;
        final int act;
        final long shape;
        int number;
        int place;
        private long value;

        Member(int sort, int owner, int name, int marks, int act, long shape) {
            this.sort = sort;
            this.owner = owner;
            this.name = name;
            this.marks = marks;
            this.act = act;
            this.shape = shape;
        }

        boolean isStatic() {
            return (marks & STATIC) != 0;
        }

        boolean isPrivate() {
            return (marks & PRIVATE) != 0;
        }

        boolean isFinal() {
            return (marks & FINAL) != 0;
        }

        boolean is(int otherSort, int otherName, long otherShape) {
            return sort == otherSort && name == otherName && shape == otherShape;
        }

        /** How a class finds a member of its own. */
        int ownLookup() {
            if (sort == METHOD) return isStatic() ? Handle.STATIC : Handle.VIRTUAL;
            return sort == FIELD ? Handle.GETTER : Handle.MAKER;
        }

        /** A field's value; the object is null for a static one. */
        long valueIn(Thing object) {
            int kind = Shapes.resultOf(shape);
            if (isFinal() && !Kinds.isPlain(kind)) return 0;
            if (isStatic()) return isFinal() ? Numbers.ofLong(kind, number) : value;
            if (object == null) return 0;
            if (isFinal()) return Numbers.ofLong(kind, object.firstTag);
            return object.hasPart(place) ? object.parts[place] : 0;
        }

        void setValueIn(Thing object, long next) {
            if (isStatic()) {
                value = next;
            } else if (object != null && object.hasPart(place)) {
                object.parts[place] = next;
            }
        }
    }

    /** The members and nests of all classes. */
    private static final class Members {
        static final int MOST_FIELDS = 8;
        private static final int MOST_MEMBERS = 24;

        private final Member[] all;
        private final int[] nests;
        private int fieldCount;
        int memberCount;

        Members() {
            all = new Member[MOST_MEMBERS];
            nests = new int[Kinds.CLASSES];
            for (int c = 0; c < nests.length; c++) nests[c] = c;
        }

        Member memberAt(int m) {
            return m >= 0 && m < memberCount && m < all.length ? all[m] : null;
        }

        int nestOf(int c) {
            return c >= 0 && c < nests.length ? nests[c] : -1;
        }

        void setNest(int c, int n) {
            if (c >= 0 && c < nests.length) nests[c] = n;
        }

        int added(int sort, int c, int name, int marks, int act, long shape) {
            if (memberCount < 0 || memberCount >= all.length) return FULL;
            if (sort == Member.FIELD && fieldCount >= MOST_FIELDS) return FULL;
            Member member = new Member(sort, c, name, marks, act, shape);
            member.number = memberCount;
            if (sort == Member.FIELD) {
                member.place = fieldCount;
                fieldCount++;
            }
            all[memberCount] = member;
            memberCount++;
            return member.number;
        }

        Member inClass(int sort, int c, int name, long shape) {
            for (int i = 0; i < memberCount && i < all.length; i++) {
                if (all[i] != null && all[i].owner == c && all[i].is(sort, name, shape)) return all[i];
            }
            return null;
        }

        Member inOrAbove(int sort, int c, int name, long shape) {
            int at = c;
            for (int i = 0; i < Kinds.CLASSES && at >= 0; i++) {
                Member member = inClass(sort, at, name, shape);
                if (member != null) return member;
                at = Kinds.parentOf(at);
            }
            return null;
        }

        /** The method that a receiver's class has for one that was found; that itself if there were none. */
        Member chosen(Member found, int receiverKind) {
            int at = receiverKind - Kinds.CLASS;
            for (int i = 0; i < Kinds.CLASSES && at >= 0; i++) {
                Member member = inClass(Member.METHOD, at, found.name, found.shape);
                if (member != null && !member.isStatic() && !member.isPrivate()) return member;
                at = Kinds.parentOf(at);
            }
            return found;
        }

        boolean mayUse(Member member, int how, int asker) {
            if (member.isPrivate() && nestOf(asker) != nestOf(member.owner)) return false;
            if (how == Handle.VIRTUAL || how == Handle.SPECIAL) return !member.isStatic();
            if (how == Handle.STATIC) return member.isStatic();
            return how != Handle.SETTER || !member.isFinal();
        }
    }

    /** What can be worked: on a member, on its own, or by way of other handles. */
    private static final class Handle {
        static final int VIRTUAL = 0, STATIC = 1, SPECIAL = 2, MAKER = 3, GETTER = 4, SETTER = 5;
        static final int ELEMENT = 6, CONSTANT = 7, SAME = 8;
        static final int ADAPTED = 9, BOUND = 10, DROPPING = 11, PERMUTING = 12, SPREADING = 13, COLLECTING = 14;
        static final int PASSING = 15, SITE = 16, CATCHING = 17;
        static final int FILTERING = 18, FOLDING = 19, FOLLOWING = 20, GUARDING = 21;
        static final int READ = 0, WRITE = 1, LENGTH = 2, NEW_ROW = 3;

        final int type;
        final long shape;
        Handle inner;
        Handle other;
        Handle test;
        Member member;
        boolean varied;
        int number;
        // a place among parameters; an order of them; the failure that is caught; what is done with an element
        int at;
        int kind;
        int amount;
        long value;

        Handle(int type, long shape, Handle inner) {
            this.type = type;
            this.shape = shape;
            this.inner = inner;
            number = -1;
        }

        static Handle on(Member member, int how, int c) {
            Handle handle = new Handle(how, shapeOn(member, how, Kinds.CLASS + c), null);
            handle.member = member;
            handle.varied = (member.marks & Member.VARIED) != 0;
            return handle;
        }

        private static long shapeOn(Member member, int how, int receiver) {
            if (how == MAKER) return Shapes.withResult(member.shape, receiver);
            int kind = Shapes.resultOf(member.shape);
            long own = member.shape;
            if (how == SETTER) own = Shapes.with(Shapes.bringing(Kinds.NOTHING), 0, kind);
            return member.isStatic() ? own : Shapes.with(own, 0, receiver);
        }

        static Handle collecting(Handle inner, int kind, int amount) {
            int others = Math.max(Shapes.sizeOf(inner.shape) - 1, 0);
            long shape = Shapes.without(inner.shape, others);
            for (int i = 0; i < amount && others + i < Shapes.MOST_PARAMETERS; i++) {
                shape = Shapes.with(shape, others + i, Kinds.elementOf(kind));
            }
            Handle handle = new Handle(COLLECTING, shape, inner);
            handle.kind = kind;
            handle.amount = amount;
            return handle;
        }

        /** A handle that has this shape, null if there can be none; itself if nothing is to be done. */
        static Handle adapted(Handle handle, long shape) {
            if (!handle.varied && handle.shape == shape) return handle;
            Handle inner = handle.varied ? collectedFor(handle, shape) : handle;
            if (inner == null || !canAdapt(inner.shape, shape)) return null;
            return new Handle(ADAPTED, shape, inner);
        }

        private static Handle collectedFor(Handle handle, long shape) {
            int own = Shapes.sizeOf(handle.shape);
            int size = Shapes.sizeOf(shape);
            int row = Shapes.lastOf(handle.shape);
            if (own == size && Kinds.canTurn(Shapes.lastOf(shape), row)) return handle;
            return size < own - 1 ? null : collecting(handle, row, size - own + 1);
        }

        private static boolean canAdapt(long inner, long shape) {
            int size = Shapes.sizeOf(shape);
            if (Shapes.sizeOf(inner) != size) return false;
            for (int i = 0; i < size; i++) {
                if (!Kinds.canTurn(Shapes.kindAt(shape, i), Shapes.kindAt(inner, i))) return false;
            }
            return Kinds.canTurn(Shapes.resultOf(inner), Shapes.resultOf(shape));
        }
    }

    /** The failure at hand, and how many there were. */
    private static final class Trouble {
        static final int NULL = 1, CAST = 2, INDEX = 3, STORE = 4, SIZE = 5, ZERO = 6, RAISED = 7, MISFIT = 8;
        static final int SPENT = 9, NO_ROOM = 10, LAST_CAUGHT = MISFIT;

        private final int[] counts;
        int total;
        int inRun;
        int caughtInRun;
        int pending;
        int ended;

        Trouble() {
            counts = new int[NO_ROOM + 1];
        }

        /** 0, for what would have come. */
        long raise(int failure) {
            if (failure < 0 || failure >= counts.length) return 0;
            counts[failure]++;
            total++;
            inRun++;
            pending = failure;
            return 0;
        }

        int countOf(int failure) {
            return failure >= 0 && failure < counts.length ? counts[failure] : 0;
        }

        void startRun() {
            inRun = 0;
            caughtInRun = 0;
            pending = 0;
        }

        /** The failure that was caught. */
        int caughtOne() {
            int failure = pending;
            caughtInRun++;
            pending = 0;
            return failure;
        }

        int endRun() {
            ended = pending;
            pending = 0;
            return ended;
        }
    }

    /** What handles do that work no other ones: members, elements. */
    private static final class Acts {
        static final int SUM = 0, QUOTIENT = 1, TAKE = 2, PUT = 3, RAISE = 4, PASS = 5, RETAG = 6, WEIGHT = 7;

        private final Heap heap;
        private final Trouble trouble;
        /** The values that the handle at hand is worked with. */
        final long[] given;

        Acts(Heap heap, Trouble trouble) {
            this.heap = heap;
            this.trouble = trouble;
            given = new long[Shapes.MOST_PARAMETERS];
        }

        static boolean fits(int act, int marks, long shape) {
            int size = Shapes.sizeOf(shape);
            int first = Shapes.kindAt(shape, 0);
            switch (act) {
                case QUOTIENT: return size >= 2;
                case TAKE: return size >= 2 && Kinds.isRow(first);
                case PUT: return size >= 3 && Kinds.isRow(first);
                case PASS: return Kinds.isReference(first) && Kinds.isReference(Shapes.resultOf(shape));
                case RETAG: case WEIGHT: return (marks & Member.STATIC) == 0;
                default: return true;
            }
        }

        private long valueAt(int i) {
            return i >= 0 && i < given.length ? given[i] : 0;
        }

        /** What a method brings that is worked by way of a handle of a shape. */
        long ofMethod(Member method, long shape) {
            if (method == null) return 0;
            int first = method.isStatic() ? 0 : 1;
            Thing receiver = first == 0 ? null : heap.thingAt(given[0]);
            if (first == 1 && receiver == null) return trouble.raise(Trouble.NULL);
            int kind = Shapes.resultOf(method.shape);
            if (method.act == PASS) return passed(valueAt(first), kind);
            long n = 0;
            switch (method.act) {
                case QUOTIENT: n = quotient(shape, first); break;
                case TAKE: n = taken(shape, first); break;
                case PUT: n = put(shape, first); break;
                case RETAG: n = retagged(receiver, sum(shape, 1)); break;
                case WEIGHT: n = weight(receiver); break;
                default: n = 1000L * method.number + sum(shape, 0);
            }
            if (trouble.pending != 0) return 0;
            return method.act == RAISE ? trouble.raise(Trouble.RAISED) : heap.madeOf(n, kind);
        }

        /** The sum of the numbers of all values from one on, as far as they have numbers. */
        private long sum(long shape, int from) {
            int size = Shapes.sizeOf(shape);
            long sum = 0;
            for (int i = from; i < size && trouble.pending == 0; i++) {
                sum += heap.numberOf(Shapes.kindAt(shape, i), valueAt(i));
            }
            return sum;
        }

        private long quotient(long shape, int first) {
            long dividend = heap.numberOf(Shapes.kindAt(shape, first), valueAt(first));
            if (trouble.pending != 0) return 0;
            long divisor = heap.numberOf(Shapes.kindAt(shape, first + 1), valueAt(first + 1));
            if (trouble.pending != 0) return 0;
            return divisor == 0 ? trouble.raise(Trouble.ZERO) : dividend / divisor;
        }

        private long taken(long shape, int first) {
            int place = (int) heap.numberOf(Shapes.kindAt(shape, first + 1), valueAt(first + 1));
            if (trouble.pending != 0) return 0;
            long element = heap.elementAt(valueAt(first), place);
            if (trouble.pending != 0) return 0;
            return heap.numberOf(Kinds.elementOf(Shapes.kindAt(shape, first)), element);
        }

        private long put(long shape, int first) {
            int place = (int) heap.numberOf(Shapes.kindAt(shape, first + 1), valueAt(first + 1));
            if (trouble.pending != 0) return 0;
            int element = Kinds.elementOf(Shapes.kindAt(shape, first));
            int kind = Shapes.kindAt(shape, first + 2);
            long value = valueAt(first + 2);
            if (Kinds.isPlain(element)) {
                value = Numbers.ofLong(element, heap.numberOf(kind, value));
            } else if (!isObjectOrNone(kind, value)) {
                trouble.raise(Trouble.CAST);
            }
            return trouble.pending != 0 ? 0 : heap.stored(valueAt(first), place, value);
        }

        private boolean isObjectOrNone(int kind, long value) {
            if (Kinds.isPlain(kind)) return false;
            Thing thing = heap.thingAt(value);
            return thing == null || Kinds.isClass(thing.kind);
        }

        private long passed(long value, int kind) {
            Thing thing = heap.thingAt(value);
            return thing == null || Kinds.isA(thing.kind, kind) ? value : trouble.raise(Trouble.CAST);
        }

        private long retagged(Thing receiver, long sum) {
            if (receiver == null || trouble.pending != 0) return 0;
            long was = receiver.bits;
            receiver.bits = (int) sum;
            return was;
        }

        private static long weight(Thing receiver) {
            if (receiver == null) return 0;
            int tag = (int) receiver.bits;
            switch (receiver.kind - Kinds.CLASS) {
                case 1: return 2 * tag + 1;
                case 3: return 2 * tag + 101;
                case 4: return tag + 1000;
                default: return tag;
            }
        }

        long ofMaker(long shape) {
            long sum = sum(shape, 0);
            return trouble.pending != 0 ? 0 : heap.madeOf(sum, Shapes.resultOf(shape));
        }

        long ofField(Member field, boolean set) {
            if (field == null) return 0;
            Thing object = field.isStatic() ? null : heap.thingAt(given[0]);
            if (object == null && !field.isStatic()) return trouble.raise(Trouble.NULL);
            if (!set) return field.valueIn(object);
            field.setValueIn(object, field.isStatic() ? given[0] : given[1]);
            return 0;
        }

        long ofElement(int what, int kind) {
            if (what == Handle.READ) return heap.elementAt(given[0], (int) given[1]);
            if (what == Handle.WRITE) return heap.stored(given[0], (int) given[1], given[2]);
            if (what == Handle.LENGTH) return heap.numberOf(kind, given[0]);
            return given[0] > LONGEST_ROW ? trouble.raise(Trouble.MISFIT) : heap.madeOf(given[0], kind);
        }
    }

    /**
     * Works handles. A site may work itself, so handles can go as deep as there are steps in a run:
     * the handles that stand open are kept here, with their values, and no method calls itself.
     */
    private static final class Machine {
        private static final int MOST_STEPS = 200, WIDTH = Shapes.MOST_PARAMETERS, CAUGHT_PHASE = 2;

        private final Heap heap;
        private final Trouble trouble;
        private final Members members;
        private final Acts acts;
        private final Handle[] open;
        private final int[] phases;
        private final long[] values;
        int depth;
        int steps;
        long result;

        Machine(Heap heap, Trouble trouble, Members members) {
            this.heap = heap;
            this.trouble = trouble;
            this.members = members;
            acts = new Acts(heap, trouble);
            open = new Handle[MOST_STEPS];
            phases = new int[MOST_STEPS];
            // the values of the next handle are laid out before it is known whether it may begin
            values = new long[(MOST_STEPS + 1) * WIDTH];
        }

        void start(Handle handle, long[] args, int size) {
            trouble.startRun();
            depth = 0;
            steps = 0;
            result = 0;
            for (int i = 0; i < size && i < args.length; i++) lay(i, args[i]);
            begin(handle);
        }

        /** Lays out a value for the handle that begins next. */
        private void lay(int i, long value) {
            int place = depth * WIDTH + i;
            if (place >= 0 && place < values.length && i < WIDTH) values[place] = value;
        }

        /** A value of the handle that began last. */
        private long valueAt(int i) {
            int place = (depth - 1) * WIDTH + i;
            return place >= 0 && place < values.length ? values[place] : 0;
        }

        /** Lays out values of the handle that began last, from one place on at another. */
        private void pass(int from, int to, int size) {
            for (int i = 0; i < size; i++) lay(to + i, valueAt(from + i));
        }

        private void begin(Handle handle) {
            if (trouble.pending != 0) return;
            if (steps >= MOST_STEPS || depth < 0 || depth >= open.length) {
                trouble.raise(Trouble.SPENT);
                return;
            }
            steps++;
            open[depth] = handle;
            phases[depth] = 0;
            depth++;
        }

        private void end(long value) {
            result = value;
            depth--;
        }

        /** The handle that began last. */
        Handle top() {
            return depth > 0 && depth <= open.length ? open[depth - 1] : null;
        }

        /** Works a handle that works no other ones. */
        void turnAlone(Handle handle) {
            for (int i = 0; i < acts.given.length; i++) acts.given[i] = valueAt(i);
            switch (handle.type) {
                case Handle.MAKER: end(acts.ofMaker(handle.shape)); break;
                case Handle.GETTER: end(acts.ofField(handle.member, false)); break;
                case Handle.SETTER: end(acts.ofField(handle.member, true)); break;
                case Handle.ELEMENT: end(acts.ofElement(handle.at, handle.kind)); break;
                case Handle.CONSTANT: end(handle.value); break;
                case Handle.SAME: end(valueAt(0)); break;
                default: end(acts.ofMethod(methodOf(handle), handle.shape));
            }
        }

        private Member methodOf(Handle handle) {
            if (handle.type != Handle.VIRTUAL || handle.member == null || handle.member.isPrivate()) return handle.member;
            Thing receiver = heap.thingAt(valueAt(0));
            return receiver == null ? handle.member : members.chosen(handle.member, receiver.kind);
        }

        /** One turn of a handle that works others: it begins the first, the second, and ends. */
        void turnAround(Handle handle) {
            Handle inner = handle.inner;
            if (inner == null || depth < 1 || depth > phases.length) {
                end(result);
                return;
            }
            int phase = phases[depth - 1];
            phases[depth - 1] = phase + 1;
            boolean pair = handle.type >= Handle.FILTERING && handle.other != null;
            if (phase == 0 && pair) {
                beginFirst(handle, inner, handle.other);
            } else if (phase == 0) {
                layInner(handle, inner);
                begin(inner);
            } else if (phase == 1 && pair) {
                beginSecond(handle, inner, handle.other);
            } else if (handle.type == Handle.ADAPTED) {
                end(heap.turned(result, Shapes.resultOf(inner.shape), Shapes.resultOf(handle.shape)));
            } else {
                end(result);
            }
        }

        /** Lays out what a handle hands on to the one within it. */
        private void layInner(Handle handle, Handle inner) {
            int size = Shapes.sizeOf(handle.shape);
            switch (handle.type) {
                case Handle.ADAPTED: layTurned(handle.shape, inner.shape, size); break;
                case Handle.BOUND:
                    pass(0, 0, handle.at);
                    lay(handle.at, handle.value);
                    pass(handle.at, handle.at + 1, size - handle.at);
                    break;
                case Handle.DROPPING:
                    pass(0, 0, handle.at);
                    pass(handle.at + 1, handle.at, size - handle.at - 1);
                    break;
                case Handle.PERMUTING: layPermuted(handle.at, Shapes.sizeOf(inner.shape)); break;
                case Handle.SPREADING: laySpread(handle, inner.shape, size - 1); break;
                case Handle.COLLECTING: layCollected(handle, size - handle.amount); break;
                default: pass(0, 0, size);
            }
        }

        private void layTurned(long shape, long inner, int size) {
            for (int i = 0; i < size && trouble.pending == 0; i++) {
                lay(i, heap.turned(valueAt(i), Shapes.kindAt(shape, i), Shapes.kindAt(inner, i)));
            }
        }

        private void layPermuted(int order, int size) {
            int rest = order;
            for (int i = 0; i < size; i++) {
                lay(i, valueAt(rest % 10));
                rest /= 10;
            }
        }

        private void laySpread(Handle handle, long inner, int others) {
            pass(0, 0, others);
            Thing row = heap.thingAt(valueAt(others));
            if (row == null) {
                if (handle.amount != 0) trouble.raise(Trouble.NULL);
                return;
            }
            if (row.parts.length != handle.amount) {
                trouble.raise(Trouble.MISFIT);
                return;
            }
            int kind = Kinds.elementOf(handle.kind);
            for (int i = 0; i < row.parts.length && trouble.pending == 0; i++) {
                lay(others + i, heap.turned(row.parts[i], kind, Shapes.kindAt(inner, others + i)));
            }
        }

        private void layCollected(Handle handle, int others) {
            pass(0, 0, others);
            long row = heap.makeThing(handle.kind, handle.amount, handle.amount);
            for (int i = 0; i < handle.amount; i++) heap.fillRow(row, i, valueAt(others + i));
            lay(others, row);
        }

        private void beginFirst(Handle handle, Handle inner, Handle other) {
            Handle first = handle.type == Handle.FOLLOWING ? inner : other;
            if (handle.type == Handle.GUARDING && handle.test != null) first = handle.test;
            pass(handle.type == Handle.FILTERING ? handle.at : 0, 0, Shapes.sizeOf(first.shape));
            begin(first);
        }

        private void beginSecond(Handle handle, Handle inner, Handle other) {
            if (handle.type == Handle.FOLLOWING) {
                lay(0, result);
                begin(other);
                return;
            }
            boolean ahead = handle.type == Handle.FOLDING && Shapes.resultOf(other.shape) != Kinds.NOTHING;
            pass(0, ahead ? 1 : 0, Shapes.sizeOf(handle.shape));
            if (ahead) lay(0, result);
            if (handle.type == Handle.FILTERING) lay(handle.at, result);
            begin(handle.type == Handle.GUARDING && result == 0 ? other : inner);
        }

        /** Leaves handles until one catches the failure at hand. */
        void unwind() {
            for (int i = 0; i <= MOST_STEPS && depth > 0; i++) {
                Handle handle = top();
                if (handle != null && handle.other != null && catches(handle)) {
                    phases[depth - 1] = CAUGHT_PHASE;
                    lay(0, trouble.caughtOne());
                    pass(0, 1, Shapes.sizeOf(handle.other.shape) - 1);
                    begin(handle.other);
                    return;
                }
                depth--;
            }
        }

        /** Whether the top handle catches; it does not catch what comes of its own catching. */
        private boolean catches(Handle handle) {
            if (handle.type != Handle.CATCHING || depth > phases.length || phases[depth - 1] == CAUGHT_PHASE) return false;
            return trouble.pending <= Trouble.LAST_CAUGHT && (handle.at == 0 || handle.at == trouble.pending);
        }
    }
}
