import java.util.ArrayList;
import java.util.HashMap;
import java.util.List;
import java.util.Map;
import java.util.Set;
import java.util.TreeSet;

/**
 * The document once more, written down sentence by sentence with all that Java has: exceptions, recursion, functions
 * and Java's own numbers. It shares no line with the class, so that what both answer is not wrong for one slip of hand.
 */
final class Model extends Check {
    /** A call that is refused, and the number that it answers. */
    static final class Refused extends RuntimeException {
        private static final long serialVersionUID = 1;
        final int number;

        Refused(int number) {
            super(null, null, false, false);
            this.number = number;
        }
    }

    /** What the machine has against an act. */
    static final class Failure extends RuntimeException {
        private static final long serialVersionUID = 1;
        final int number;

        Failure(int number) {
            super(null, null, false, false);
            this.number = number;
        }
    }

    /** A BOX, a ROW or an OBJECT. NONE is null; a PLAIN value is Java's own object of it. */
    static final class Ref {
        final int kind;
        Object held;
        int tag;
        int firstTag;
        Object[] elements;
        final Map<Member, Object> fields = new HashMap<>();

        Ref(int kind) {
            this.kind = kind;
        }
    }

    static final class Shape {
        final int result;
        final List<Integer> parameters;

        Shape(int result, List<Integer> parameters) {
            this.result = result;
            this.parameters = parameters;
        }

        int size() {
            return parameters.size();
        }

        int last() {
            return parameters.get(size() - 1);
        }

        boolean endsWithRow() {
            return size() > 0 && isRow(last());
        }

        long told() {
            long told = result + 1;
            for (int i = 0; i < size(); i++) told |= (long) (parameters.get(i) + 1) << 8 * (i + 1);
            return told;
        }

        boolean isLike(Shape other) {
            return result == other.result && parameters.equals(other.parameters);
        }

        boolean beginsWith(List<Integer> first) {
            return size() >= first.size() && parameters.subList(0, first.size()).equals(first);
        }
    }

    static final class Member {
        char sort;
        int number;
        int c;
        int name;
        int marks;
        int act;
        // of a FIELD the KIND is the result
        Shape shape;
        Object value;

        boolean has(int mark) {
            return (marks & mark) != 0;
        }
    }

    interface Work {
        Object on(List<Object> values);
    }

    static final class Handle {
        final Shape shape;
        Work work;
        boolean varied;
        boolean site;
        Handle target;

        Handle(Shape shape, Work work) {
            this.shape = shape;
            this.work = work;
        }
    }

    private static final int[] ABOVE = {-1, 0, 0, 1, 2};
    private static final int[][] WIDENING = {{}, {2, 4, 5, 6, 7}, {4, 5, 6, 7}, {4, 5, 6, 7}, {5, 6, 7}, {6, 7}, {7}, {}};

    final List<Ref> things = new ArrayList<>();
    final List<Member> members = new ArrayList<>();
    final List<Handle> handles = new ArrayList<>();
    final List<Integer> argKinds = new ArrayList<>();
    final List<Object> args = new ArrayList<>();
    private final int[] nests = {0, 1, 2, 3, 4};
    private final int[] failures = new int[11];
    private int made;
    private int steps;
    private int failed;
    private int caught;
    private int ended;
    private boolean brought;
    private int broughtKind;
    private Object broughtValue;

    // ---- terms

    private static void refuse(boolean when, int number) {
        if (when) throw new Refused(number);
    }

    private Failure failure(int number) {
        failures[number]++;
        failed++;
        return new Failure(number);
    }

    static boolean isPlain(int kind) {
        return kind >= 0 && kind <= 7;
    }

    static boolean isBox(int kind) {
        return kind >= 10 && kind <= 17;
    }

    static boolean isClass(int kind) {
        return kind >= 30 && kind <= 34;
    }

    private static Set<Integer> allThat(int kind) {
        Set<Integer> all = new TreeSet<>();
        all.add(kind);
        if (isReference(kind)) all.add(THING);
        if (isBox(kind) && kind != 10 && kind != 13) all.add(NUMBER);
        for (int c = kind % 10; kind >= 30 && c >= 0; c = ABOVE[c]) all.add(kind / 10 * 10 + c);
        return all;
    }

    static boolean is(int kind, int other) {
        return allThat(kind).contains(other);
    }

    private static boolean is(Object value, int kind) {
        return value == null || is(((Ref) value).kind, kind);
    }

    static int elementOf(int row) {
        return row >= 40 ? row - 10 : row - 20;
    }

    static Object zero(int kind) {
        return isPlain(kind) ? plain(0, kind) : null;
    }

    /** A long cast to a PLAIN KIND. */
    private static Object plain(long n, int kind) {
        switch (kind) {
            case TRUTH: return n % 2 != 0;
            case BYTE: return (byte) n;
            case SHORT: return (short) n;
            case CHAR: return (char) n;
            case INT: return (int) n;
            case LONG: return n;
            case FLOAT: return (float) n;
            default: return (double) n;
        }
    }

    private static Object ofBits(long bits, int kind) {
        if (kind == FLOAT) return Float.intBitsToFloat((int) bits);
        return kind == DOUBLE ? Double.longBitsToDouble(bits) : plain(bits, kind);
    }

    private static long bitsOf(Object plain) {
        if (plain instanceof Float) return Float.floatToRawIntBits((Float) plain);
        if (plain instanceof Double) return Double.doubleToRawLongBits((Double) plain);
        return numberOfPlain(plain);
    }

    private static long numberOfPlain(Object plain) {
        if (plain instanceof Boolean) return (Boolean) plain ? 1 : 0;
        return plain instanceof Character ? (Character) plain : ((Number) plain).longValue();
    }

    static boolean widens(int from, int to) {
        for (int kind : WIDENING[from]) {
            if (kind == to) return true;
        }
        return from == to;
    }

    private static Object widened(Object plain, int from, int to) {
        if (from == to) return plain;
        if (to == FLOAT) return from == LONG ? (float) (Long) plain : (float) (int) numberOfPlain(plain);
        if (to != DOUBLE) return plain(numberOfPlain(plain), to);
        if (from == FLOAT) return (double) (Float) plain;
        return from == LONG ? (double) (Long) plain : (double) (int) numberOfPlain(plain);
    }

    static Shape shapeOf(long told) {
        int result = (int) (told & 255) - 1;
        refuse(!isKind(result), OUTSIDE);
        List<Integer> parameters = new ArrayList<>();
        long rest = told >>> 8;
        while (rest != 0) {
            int kind = (int) (rest & 255) - 1;
            refuse(!isKind(kind) || kind == NOTHING || parameters.size() == 6, OUTSIDE);
            parameters.add(kind);
            rest >>>= 8;
        }
        return new Shape(result, parameters);
    }

    private static Shape shapeOf(int result, List<Integer> parameters) {
        return new Shape(result, new ArrayList<>(parameters));
    }

    private long number(Object value) {
        if (value == null) throw failure(1);
        if (!(value instanceof Ref)) return numberOfPlain(value);
        Ref ref = (Ref) value;
        if (isBox(ref.kind)) return numberOfPlain(ref.held);
        return isClass(ref.kind) ? ref.tag : ref.elements.length;
    }

    private static Ref newObject(int kind, long tag) {
        Ref ref = new Ref(kind);
        ref.tag = (int) tag;
        ref.firstTag = (int) tag;
        return ref;
    }

    private static Ref newRow(int kind, int n) {
        Ref ref = new Ref(kind);
        ref.elements = new Object[n];
        for (int i = 0; i < n; i++) ref.elements[i] = zero(elementOf(kind));
        return ref;
    }

    private static Ref box(Object plain, int kind) {
        Ref ref = new Ref(10 + kind);
        ref.held = plain;
        return ref;
    }

    private Ref made(Ref ref) {
        if (made == 8000) throw failure(10);
        made++;
        return ref;
    }

    /** A VALUE is MADE of a long. */
    private Object made(long n, int kind) {
        if (kind == NOTHING) return null;
        if (isPlain(kind)) return plain(n, kind);
        if (isBox(kind)) return made(box(plain(n, kind - 10), kind - 10));
        if (kind == THING || kind == NUMBER) return made(box(n, LONG));
        if (isClass(kind)) return made(newObject(kind, n));
        if ((int) n < 0) throw failure(5);
        return made(newRow(kind, Math.min((int) n, 8)));
    }

    static boolean canTurn(int f, int t) {
        if (f == NOTHING || t == NOTHING) return true;
        if (isPlain(f) && isPlain(t)) return widens(f, t);
        if (isPlain(f)) return is(10 + f, t);
        if (!isPlain(t)) return true;
        if (isBox(f)) return widens(f - 10, t);
        return f == THING || f == NUMBER && t != TRUTH && t != CHAR;
    }

    private Object turned(Object value, int f, int t) {
        if (t == NOTHING) return null;
        if (f == NOTHING) return zero(t);
        if (isPlain(f)) return isPlain(t) ? widened(value, f, t) : made(box(value, f));
        if (!isPlain(t)) {
            if (is(value, t)) return value;
            throw failure(2);
        }
        if (value == null) throw failure(1);
        Ref ref = (Ref) value;
        if (!isBox(ref.kind) || !widens(ref.kind - 10, t)) throw failure(2);
        return widened(ref.held, ref.kind - 10, t);
    }

    private Object worked(Handle handle, List<Object> values) {
        if (steps == 200) throw failure(9);
        steps++;
        return handle.work.on(values);
    }

    // ---- things, args

    int object(int c, int tag) {
        refuse(c < 0 || c > 4, OUTSIDE);
        refuse(things.size() == 60, FULL);
        return named(newObject(30 + c, tag));
    }

    int row(int kind, int n) {
        refuse(!isRow(kind) || n > 8, OUTSIDE);
        refuse(things.size() == 60, FULL);
        refuse(n < 0, SIZE);
        return named(newRow(kind, n));
    }

    private int named(Ref ref) {
        things.add(ref);
        return things.size() - 1;
    }

    int arg(int kind, long bits) {
        int plain = isBox(kind) ? kind - 10 : kind;
        refuse(!isPlain(plain), OUTSIDE);
        Object value = ofBits(bits, plain);
        refuse(value instanceof Float && ((Float) value).isNaN(), OUTSIDE);
        refuse(value instanceof Double && ((Double) value).isNaN(), OUTSIDE);
        refuse(args.size() == 6, FULL);
        return argued(kind, kind == plain ? value : box(value, plain));
    }

    int give(int kind, int thing) {
        refuse(thing < -1 || thing >= things.size(), UNKNOWN);
        refuse(!isReference(kind), OUTSIDE);
        refuse(args.size() == 6, FULL);
        Ref ref = thing == -1 ? null : things.get(thing);
        refuse(!is(ref, kind), CAST);
        return argued(kind, ref);
    }

    private int argued(int kind, Object value) {
        argKinds.add(kind);
        args.add(value);
        return args.size();
    }

    private Object lastArg() {
        argKinds.remove(args.size() - 1);
        return args.remove(args.size() - 1);
    }

    int forget() {
        int went = args.size();
        args.clear();
        argKinds.clear();
        return went;
    }

    long told(int thing, int what, int i) {
        refuse(thing < -1 || thing >= things.size(), UNKNOWN);
        refuse(what < 0 || what > 3 || thing == -1 && what != 3, OUTSIDE);
        Ref ref = thing == -1 ? null : things.get(thing);
        if (what == 3) return toldField(ref, i);
        if (what == 0) return ref.kind;
        if (what == 1) return toldOf(ref);
        return ref.elements == null || i < 0 || i >= ref.elements.length ? 0 : toldPart(ref.elements[i]);
    }

    private static long toldOf(Ref ref) {
        if (isBox(ref.kind)) return bitsOf(ref.held);
        return isClass(ref.kind) ? ref.tag : ref.elements.length;
    }

    private long toldField(Ref ref, int i) {
        if (i < 0 || i >= members.size()) return 0;
        Member member = members.get(i);
        if (member.sort != 'F' || member.has(STATIC) != (ref == null)) return 0;
        if (ref != null && !is(ref.kind, 30 + member.c)) return 0;
        Object value = got(member, ref);
        return toldPart(value);
    }

    /** Bits, or the number of a THING; a THING without one is told as -2. */
    private long toldPart(Object value) {
        if (value == null) return NONE;
        return value instanceof Ref ? things.contains(value) ? things.indexOf(value) : -2 : bitsOf(value);
    }

    // ---- members

    int nest(int c, int n) {
        refuse(c < 0 || c > 4 || n < 0 || n > 4, OUTSIDE);
        int was = nests[c];
        nests[c] = n;
        return was;
    }

    int method(int c, int name, int marks, int act, long shape) {
        refuse(c < 0 || c > 4 || name < 0 || name > 15 || marks < 0 || marks > 7 || act < 0 || act > 7, OUTSIDE);
        Member member = member('M', c, name, marks, shapeOf(shape));
        member.act = act;
        int size = member.shape.size();
        refuse(size > 4, OUTSIDE);
        refuse((act == 1 || act == 2) && size < 2 || act == 3 && size < 3 || act == 5 && size < 1, OUTSIDE);
        refuse((act == 2 || act == 3) && !isRow(member.shape.parameters.get(0)), OUTSIDE);
        refuse(act == 5 && !(isReference(member.shape.parameters.get(0)) && isReference(member.shape.result)), OUTSIDE);
        refuse(act >= 6 && member.has(STATIC) || member.has(VARIED) && !member.shape.endsWithRow(), OUTSIDE);
        return added(member);
    }

    int field(int c, int name, int marks, int kind) {
        refuse(c < 0 || c > 4 || name < 0 || name > 15 || (marks | 11) != 11, OUTSIDE);
        refuse(!isKind(kind) || kind == NOTHING, OUTSIDE);
        Member member = member('F', c, name, marks, shapeOf(kind, List.of()));
        member.value = member.has(FINAL) ? isPlain(kind) ? plain(members.size(), kind) : null : zero(kind);
        return added(member);
    }

    int maker(int c, int marks, long shape) {
        refuse(c < 0 || c > 4 || (marks | 6) != 6, OUTSIDE);
        Member member = member('N', c, 0, marks, shapeOf(shape));
        refuse(member.shape.result != NOTHING || member.shape.size() > 4, OUTSIDE);
        refuse(member.has(VARIED) && !member.shape.endsWithRow(), OUTSIDE);
        return added(member);
    }

    private static Member member(char sort, int c, int name, int marks, Shape shape) {
        Member member = new Member();
        member.sort = sort;
        member.c = c;
        member.name = name;
        member.marks = marks;
        member.shape = shape;
        return member;
    }

    private int added(Member member) {
        refuse(in(member.c, member.sort, member.name, member.shape) != null, STATE);
        refuse(members.size() == 24, FULL);
        refuse(member.sort == 'F' && members.stream().filter(m -> m.sort == 'F').count() == 8, FULL);
        member.number = members.size();
        members.add(member);
        return member.number;
    }

    private Member in(int c, char sort, int name, Shape shape) {
        for (Member m : members) {
            if (m.c == c && m.sort == sort && m.name == name && m.shape.isLike(shape)) return m;
        }
        return null;
    }

    private Member inOrAbove(int c, char sort, int name, Shape shape) {
        Member found = null;
        for (int at = c; at >= 0 && found == null; at = ABOVE[at]) found = in(at, sort, name, shape);
        return found;
    }

    // ---- what MEMBERS do

    private Object acted(Member method, List<Object> values) {
        Ref receiver = method.has(STATIC) ? null : (Ref) values.get(0);
        if (receiver == null && !method.has(STATIC)) throw failure(1);
        List<Object> own = values.subList(method.has(STATIC) ? 0 : 1, values.size());
        int kind = method.shape.result;
        switch (method.act) {
            case 0: return made(sum(1000L * method.number, values), kind);
            case 1: return made(quotient(number(own.get(0)), number(own.get(1))), kind);
            case 2: return made(elementNumber(own), kind);
            case 3: return made(put(method.shape.parameters.get(0), own), kind);
            case 4:
                sum(0, values);
                throw failure(7);
            case 5:
                if (!is(own.get(0), kind)) throw failure(2);
                return own.get(0);
            case 6: {
                int was = receiver.tag;
                receiver.tag = (int) sum(0, own);
                return made((long) was, kind);
            }
            default: return made((long) weight(receiver.kind, receiver.tag), kind);
        }
    }

    private long sum(long start, List<Object> values) {
        long sum = start;
        for (Object value : values) sum += number(value);
        return sum;
    }

    private long quotient(long n, long by) {
        if (by == 0) throw failure(6);
        return n / by;
    }

    private long elementNumber(List<Object> own) {
        int place = (int) number(own.get(1));
        return number(rowWith(own.get(0), place).elements[place]);
    }

    private Ref rowWith(Object row, int place) {
        if (row == null) throw failure(1);
        Ref ref = (Ref) row;
        if (place < 0 || place >= ref.elements.length) throw failure(3);
        return ref;
    }

    private long put(int rowKind, List<Object> own) {
        int place = (int) number(own.get(1));
        Object value = own.get(2);
        if (isPlain(elementOf(rowKind))) {
            value = plain(number(value), elementOf(rowKind));
        } else if (value != null && !(value instanceof Ref && isClass(((Ref) value).kind))) {
            throw failure(2);
        }
        return stored(own.get(0), place, value);
    }

    private int stored(Object row, int place, Object value) {
        Ref ref = rowWith(row, place);
        if (value instanceof Ref && !is(value, elementOf(ref.kind))) throw failure(4);
        ref.elements[place] = value;
        return ref.elements.length;
    }

    private static int weight(int kind, int tag) {
        switch (kind) {
            case LEFT: return 2 * weight(BASE, tag) + 1;
            case LAST: return weight(LEFT, tag) + 100;
            case FAR: return weight(RIGHT, tag) + 1000;
            default: return tag;
        }
    }

    private static Object got(Member field, Ref ref) {
        int kind = field.shape.result;
        if (field.has(STATIC)) return field.value;
        if (field.has(FINAL)) return isPlain(kind) ? plain(ref.firstTag, kind) : null;
        return ref.fields.containsKey(field) ? ref.fields.get(field) : zero(kind);
    }

    private Object gotOrSet(Member field, List<Object> values, boolean set) {
        Ref ref = field.has(STATIC) ? null : (Ref) values.get(0);
        if (ref == null && !field.has(STATIC)) throw failure(1);
        if (!set) return got(field, ref);
        if (ref == null) field.value = values.get(0);
        else ref.fields.put(field, values.get(1));
        return null;
    }

    // ---- handles

    int find(int how, int c, int name, long told, int asker) {
        refuse(how < 0 || how > 5 || c < 0 || c > 4 || asker < 0 || asker > 4, OUTSIDE);
        refuse(how != 3 && (name < 0 || name > 15), OUTSIDE);
        Shape shape = shapeOf(told);
        refuse(how == 3 && shape.result != NOTHING, OUTSIDE);
        refuse(how > 3 && (shape.size() > 0 || shape.result == NOTHING), OUTSIDE);
        refuse(how == 2 && !is(30 + asker, 30 + c), NO_ACCESS);
        Member member = how == 3 ? in(c, 'N', 0, shape) : inOrAbove(c, how < 3 ? 'M' : 'F', name, shape);
        refuse(member == null, how > 3 ? NO_FIELD : NO_METHOD);
        refuse(how < 3 && member.has(STATIC) != (how == 1), NO_ACCESS);
        refuse(member.has(PRIVATE) && nests[asker] != nests[member.c], NO_ACCESS);
        refuse(how == 5 && member.has(FINAL), NO_ACCESS);
        return added(handleOn(member, how, 30 + (how == 2 ? asker : c)));
    }

    private Handle handleOn(Member member, int how, int c) {
        List<Integer> parameters = new ArrayList<>(member.shape.parameters);
        if (how != 3 && !member.has(STATIC)) parameters.add(0, c);
        if (how == 5) parameters.add(member.shape.result);
        int result = how == 3 ? c : how == 5 ? NOTHING : member.shape.result;
        Handle handle = new Handle(shapeOf(result, parameters), values -> workedOn(member, how, c, values));
        handle.varied = member.sort != 'F' && member.has(VARIED);
        return handle;
    }

    private Object workedOn(Member member, int how, int c, List<Object> values) {
        if (how == 3) return made(newObject(c, sum(0, values)));
        if (how > 3) return gotOrSet(member, values, how == 5);
        if (how != 0 || member.has(PRIVATE) || values.get(0) == null) return acted(member, values);
        for (int at = ((Ref) values.get(0)).kind - 30; at >= 0; at = ABOVE[at]) {
            Member method = in(at, 'M', member.name, member.shape);
            if (method != null && !method.has(STATIC) && !method.has(PRIVATE)) return acted(method, values);
        }
        throw new IllegalStateException("the found one itself is none");
    }

    private int added(Handle handle) {
        refuse(handles.size() == 60, FULL);
        handles.add(handle);
        return handles.size() - 1;
    }

    private Handle handle(int h) {
        refuse(h < 0 || h >= handles.size(), UNKNOWN);
        return handles.get(h);
    }

    int as(int h, long told) {
        Handle handle = handle(h);
        Handle adapted = adapted(handle, shapeOf(told));
        return adapted == handle ? h : added(adapted);
    }

    private Handle adapted(Handle handle, Shape shape) {
        if (!handle.varied && handle.shape.isLike(shape)) return handle;
        Handle inner = handle;
        int own = handle.shape.size();
        if (handle.varied && !(own == shape.size() && canTurn(shape.last(), handle.shape.last()))) {
            refuse(shape.size() < own - 1, WRONG_TYPE);
            inner = collecting(handle, handle.shape.last(), shape.size() - own + 1);
        }
        Shape to = inner.shape;
        refuse(to.size() != shape.size() || !canTurn(to.result, shape.result), WRONG_TYPE);
        for (int i = 0; i < to.size(); i++) refuse(!canTurn(shape.parameters.get(i), to.parameters.get(i)), WRONG_TYPE);
        Handle target = inner;
        return new Handle(shape, values -> {
            List<Object> turned = new ArrayList<>();
            for (Object value : values) {
                int i = turned.size();
                turned.add(turned(value, shape.parameters.get(i), to.parameters.get(i)));
            }
            return turned(worked(target, turned), to.result, shape.result);
        });
    }

    private Handle collecting(Handle handle, int kind, int n) {
        int others = handle.shape.size() - 1;
        List<Integer> parameters = new ArrayList<>(handle.shape.parameters.subList(0, others));
        for (int i = 0; i < n; i++) parameters.add(elementOf(kind));
        return new Handle(shapeOf(handle.shape.result, parameters), values -> {
            Ref row = made(newRow(kind, n));
            for (int i = 0; i < n; i++) row.elements[i] = values.get(others + i);
            List<Object> handed = new ArrayList<>(values.subList(0, others));
            handed.add(row);
            return worked(handle, handed);
        });
    }

    int bind(int h, int at) {
        Handle handle = handle(h);
        refuse(at < 0 || at >= handle.shape.size(), OUTSIDE);
        refuse(args.isEmpty(), STATE);
        refuse(handles.size() == 60, FULL);
        Object bound = bound(args.get(args.size() - 1), argKinds.get(args.size() - 1), handle.shape.parameters.get(at));
        lastArg();
        List<Integer> parameters = new ArrayList<>(handle.shape.parameters);
        parameters.remove(at);
        return added(new Handle(shapeOf(handle.shape.result, parameters), values -> {
            List<Object> handed = new ArrayList<>(values);
            handed.add(at, bound);
            return worked(handle, handed);
        }));
    }

    private Object bound(Object value, int kind, int parameter) {
        if (isPlain(parameter)) {
            refuse(value == null, NULL);
            refuse(kind != parameter && !(value instanceof Ref && ((Ref) value).kind == 10 + parameter), CAST);
            return value instanceof Ref ? ((Ref) value).held : value;
        }
        refuse(isPlain(kind) && made == 8000, NO_ROOM);
        Object bound = isPlain(kind) ? box(value, kind) : value;
        refuse(!is(bound, parameter), CAST);
        if (isPlain(kind)) made++;
        return bound;
    }

    int drop(int h, int at, int kind) {
        Handle handle = handle(h);
        refuse(at < 0 || at > handle.shape.size(), OUTSIDE);
        refuse(!isKind(kind) || kind == NOTHING || handle.shape.size() == 6, OUTSIDE);
        List<Integer> parameters = new ArrayList<>(handle.shape.parameters);
        parameters.add(at, kind);
        return added(new Handle(shapeOf(handle.shape.result, parameters), values -> {
            List<Object> handed = new ArrayList<>(values);
            handed.remove(at);
            return worked(handle, handed);
        }));
    }

    int permute(int h, int order, long told) {
        Handle handle = handle(h);
        Shape shape = shapeOf(told);
        refuse(order < 0, OUTSIDE);
        String digits = new StringBuilder("0000000000" + order).reverse().toString();
        int size = handle.shape.size();
        for (int i = 0; i < digits.length(); i++) {
            int digit = digits.charAt(i) - '0';
            refuse(i < size ? digit >= shape.size() : digit != 0, OUTSIDE);
        }
        for (int i = 0; i < size; i++) {
            int from = digits.charAt(i) - '0';
            refuse(!shape.parameters.get(from).equals(handle.shape.parameters.get(i)), WRONG_TYPE);
        }
        refuse(shape.result != handle.shape.result, WRONG_TYPE);
        return added(new Handle(shape, values -> {
            List<Object> handed = new ArrayList<>();
            for (int i = 0; i < size; i++) handed.add(values.get(digits.charAt(i) - '0'));
            return worked(handle, handed);
        }));
    }

    int filter(int h, int at, int g) {
        Handle handle = handle(h);
        Handle first = handle(g);
        refuse(at < 0 || at >= handle.shape.size(), OUTSIDE);
        refuse(first.shape.size() != 1 || first.shape.result != handle.shape.parameters.get(at), WRONG_TYPE);
        List<Integer> parameters = new ArrayList<>(handle.shape.parameters);
        parameters.set(at, first.shape.last());
        return added(new Handle(shapeOf(handle.shape.result, parameters), values -> {
            List<Object> handed = new ArrayList<>(values);
            handed.set(at, worked(first, values.subList(at, at + 1)));
            return worked(handle, handed);
        }));
    }

    int fold(int h, int g) {
        Handle handle = handle(h);
        Handle first = handle(g);
        boolean nothing = first.shape.result == NOTHING;
        Shape own = handle.shape;
        refuse(!nothing && (own.size() == 0 || own.parameters.get(0) != first.shape.result), WRONG_TYPE);
        Shape shape = nothing ? own : shapeOf(own.result, own.parameters.subList(1, own.size()));
        refuse(!shape.beginsWith(first.shape.parameters), WRONG_TYPE);
        return added(new Handle(shape, values -> {
            Object came = worked(first, values.subList(0, first.shape.size()));
            List<Object> handed = new ArrayList<>(values);
            if (!nothing) handed.add(0, came);
            return worked(handle, handed);
        }));
    }

    int after(int h, int g) {
        Handle handle = handle(h);
        Handle then = handle(g);
        List<Integer> due = handle.shape.result == NOTHING ? List.of() : List.of(handle.shape.result);
        refuse(!then.shape.parameters.equals(due), WRONG_TYPE);
        return added(new Handle(shapeOf(then.shape.result, handle.shape.parameters), values -> {
            Object came = worked(handle, values);
            List<Object> handed = new ArrayList<>();
            if (handle.shape.result != NOTHING) handed.add(came);
            return worked(then, handed);
        }));
    }

    int guard(int test, int h, int g) {
        Handle asked = handle(test);
        Handle one = handle(h);
        Handle other = handle(g);
        refuse(asked.shape.result != TRUTH || !one.shape.beginsWith(asked.shape.parameters), WRONG_TYPE);
        refuse(!one.shape.isLike(other.shape), WRONG_TYPE);
        return added(new Handle(one.shape, values -> {
            boolean told = (Boolean) worked(asked, values.subList(0, asked.shape.size()));
            return worked(told ? one : other, values);
        }));
    }

    int caught(int h, int failure, int g) {
        Handle handle = handle(h);
        Handle then = handle(g);
        refuse(failure < 0 || failure > 8, OUTSIDE);
        refuse(then.shape.result != handle.shape.result, WRONG_TYPE);
        refuse(then.shape.size() == 0 || then.shape.parameters.get(0) != INT, WRONG_TYPE);
        int first = then.shape.size() - 1;
        refuse(!handle.shape.beginsWith(then.shape.parameters.subList(1, first + 1)), WRONG_TYPE);
        return added(new Handle(handle.shape, values -> {
            int number;
            try {
                return worked(handle, values);
            } catch (Failure f) {
                if (f.number > 8 || failure != 0 && failure != f.number) throw f;
                number = f.number;
            }
            caught++;
            List<Object> handed = new ArrayList<>(values.subList(0, first));
            handed.add(0, number);
            return worked(then, handed);
        }));
    }

    int spread(int h, int kind, int n) {
        Handle handle = handle(h);
        int others = handle.shape.size() - n;
        refuse(!isRow(kind) || n < 0 || n > handle.shape.size() || others + 1 > 6, OUTSIDE);
        List<Integer> spread = handle.shape.parameters.subList(others, others + n);
        for (int to : spread) refuse(!canTurn(elementOf(kind), to), WRONG_TYPE);
        List<Integer> parameters = new ArrayList<>(handle.shape.parameters.subList(0, others));
        parameters.add(kind);
        return added(new Handle(shapeOf(handle.shape.result, parameters), values -> {
            Ref row = (Ref) values.get(others);
            if (row == null && n != 0) throw failure(1);
            if (row != null && row.elements.length != n) throw failure(8);
            List<Object> handed = new ArrayList<>(values.subList(0, others));
            for (int i = 0; i < n; i++) handed.add(turned(row.elements[i], elementOf(kind), spread.get(i)));
            return worked(handle, handed);
        }));
    }

    int collect(int h, int kind, int n) {
        Handle handle = handle(h);
        refuse(!isRow(kind) || n < 0 || (long) n + Math.max(handle.shape.size() - 1, 0) > 6, OUTSIDE);
        refuse(handle.shape.size() == 0 || !is(kind, handle.shape.last()), WRONG_TYPE);
        return added(collecting(handle, kind, n));
    }

    int varied(int h) {
        Handle handle = handle(h);
        refuse(!handle.shape.endsWithRow(), WRONG_TYPE);
        Handle varied = new Handle(handle.shape, values -> worked(handle, values));
        varied.varied = true;
        return added(varied);
    }

    int element(int what, int kind) {
        refuse(what < 0 || what > 3 || !isRow(kind), OUTSIDE);
        int element = elementOf(kind);
        switch (what) {
            case 0: return added(new Handle(shapeOf(element, List.of(kind, INT)), values -> {
                int place = (Integer) values.get(1);
                return rowWith(values.get(0), place).elements[place];
            }));
            case 1: return added(new Handle(shapeOf(NOTHING, List.of(kind, INT, element)), values -> {
                stored(values.get(0), (Integer) values.get(1), values.get(2));
                return null;
            }));
            case 2: return added(new Handle(shapeOf(INT, List.of(kind)), values -> (int) number(values.get(0))));
            default: return added(new Handle(shapeOf(kind, List.of(INT)), values -> {
                if ((Integer) values.get(0) > 8) throw failure(8);
                return made((long) (Integer) values.get(0), kind);
            }));
        }
    }

    int constant() {
        refuse(args.isEmpty(), STATE);
        refuse(handles.size() == 60, FULL);
        Shape shape = shapeOf(argKinds.get(args.size() - 1), List.of());
        Object value = lastArg();
        return added(new Handle(shape, values -> value));
    }

    int same(int kind) {
        refuse(!isKind(kind) || kind == NOTHING, OUTSIDE);
        return added(new Handle(shapeOf(kind, List.of(kind)), values -> values.get(0)));
    }

    int site(int h) {
        Handle site = new Handle(handle(h).shape, null);
        site.site = true;
        site.target = handle(h);
        site.work = values -> worked(site.target, values);
        return added(site);
    }

    int target(int s, int h) {
        Handle site = handle(s);
        Handle next = handle(h);
        refuse(!site.site, OUTSIDE);
        refuse(!site.shape.isLike(next.shape), WRONG_TYPE);
        int was = handles.indexOf(site.target);
        site.target = next;
        return was;
    }

    long shape(int h) {
        return handle(h).shape.told();
    }

    // ---- runs

    int run(int h, boolean exact, int kind) {
        return run(handle(h), exact, kind);
    }

    int direct(int m, int kind) {
        refuse(m < 0 || m >= members.size(), UNKNOWN);
        Member member = members.get(m);
        int how = member.sort == 'N' ? 3 : member.sort == 'F' ? 4 : member.has(STATIC) ? 1 : 0;
        return run(handleOn(member, how, 30 + member.c), false, kind);
    }

    private int run(Handle handle, boolean exact, int kind) {
        refuse(!isKind(kind), OUTSIDE);
        int ever = 0;
        for (int n : failures) ever += n;
        refuse(ever >= 4000, STATE);
        Shape asked = shapeOf(kind, argKinds);
        refuse(exact && !handle.shape.isLike(asked), WRONG_TYPE);
        Handle adapted = exact ? handle : adapted(handle, asked);
        List<Object> values = new ArrayList<>(args);
        forget();
        steps = 0;
        failed = 0;
        caught = 0;
        ended = 0;
        try {
            broughtValue = worked(adapted, values);
        } catch (Failure f) {
            ended = f.number;
            return -ended;
        }
        brought = true;
        broughtKind = kind;
        return 1;
    }

    long result(int what) {
        refuse(!brought, STATE);
        refuse(what < 0 || what > 2, OUTSIDE);
        if (what == 0) return broughtKind;
        boolean thing = broughtValue instanceof Ref;
        if (what == 1) return thing ? ((Ref) broughtValue).kind : isReference(broughtKind) ? NONE : broughtKind;
        if (thing) return toldOf((Ref) broughtValue);
        return isPlain(broughtKind) ? bitsOf(broughtValue) : 0;
    }

    int keep() {
        refuse(!brought || !(broughtValue instanceof Ref), STATE);
        Ref ref = (Ref) broughtValue;
        if (things.contains(ref)) return things.indexOf(ref);
        refuse(things.size() == 60, FULL);
        return named(ref);
    }

    int last(int what) {
        refuse(what < 0 || what > 3, OUTSIDE);
        return what == 0 ? steps : what == 1 ? failed : what == 2 ? caught : ended;
    }

    int count(int what) {
        refuse(what < 0 || what > 4 && what < 11 || what > 20, OUTSIDE);
        int[] sizes = {things.size(), members.size(), handles.size(), args.size(), made};
        return what > 10 ? failures[what - 10] : sizes[what];
    }
}
