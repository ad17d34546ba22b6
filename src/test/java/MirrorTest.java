import java.lang.invoke.MethodHandle;
import java.lang.invoke.MethodHandles;
import java.lang.invoke.MethodType;
import java.lang.invoke.MutableCallSite;
import java.lang.reflect.Array;
import java.util.ArrayList;
import java.util.List;
import java.util.Random;

/**
 * Handles built at random, here and with Java's own method handles, and run with the same values:
 * both have to bring the same, or fail in the same way, and leave things in the same state.
 */
public final class MirrorTest {
    static class Base {
        int tag;
    }

    static class Left extends Base {
    }

    static class Right extends Base {
    }

    static class Last extends Left {
    }

    static class Far extends Right {
    }

    static final class Raised extends RuntimeException {
        private static final long serialVersionUID = 1;
    }

    /** A static method, or one of class 0. */
    static final class Method {
        final int number;
        final boolean isStatic;
        final int act;
        final int result;
        final int[] parameters;

        Method(int number, boolean isStatic, int act, int result, int[] parameters) {
            this.number = number;
            this.isStatic = isStatic;
            this.act = act;
            this.result = result;
            this.parameters = parameters;
        }

        Object worked(Object[] values) {
            int first = isStatic ? 0 : 1;
            if (!isStatic && values[0] == null) throw new NullPointerException();
            switch (act) {
                case 1: {
                    long dividend = numberOf(values[first]);
                    return made(dividend / numberOf(values[first + 1]), result);
                }
                case 2: {
                    int place = (int) numberOf(values[first + 1]);
                    return made(numberOf(Array.get(values[first], place)), result);
                }
                case 3: return put(values, first);
                case 4:
                    sum(values, 0);
                    throw new Raised();
                case 5: return classOf(result).cast(values[first]);
                case 6: {
                    Base receiver = (Base) values[0];
                    int next = (int) sum(values, 1);
                    int was = receiver.tag;
                    receiver.tag = next;
                    return made(was, result);
                }
                default: return made(1000L * number + sum(values, 0), result);
            }
        }

        private Object put(Object[] values, int first) {
            int place = (int) numberOf(values[first + 1]);
            Object value = values[first + 2];
            if (parameters[0] < 30) {
                long n = numberOf(value);
                Array.set(values[first], place, made(n, parameters[0] - 20));
            } else {
                Base object = (Base) value;
                ((Object[]) values[first])[place] = object;
            }
            return made(Array.getLength(values[first]), result);
        }

        private static long sum(Object[] values, int from) {
            long sum = 0;
            for (int i = from; i < values.length; i++) sum += numberOf(values[i]);
            return sum;
        }
    }

    /** Turns values one by one, in order; Java's own asType() does not keep to an order. */
    static final class Turning {
        final MethodHandle target;
        final MethodHandle[] turns;

        Turning(MethodHandle target, MethodType asked) {
            this.target = target.asType(target.type().changeReturnType(asked.returnType()));
            turns = new MethodHandle[asked.parameterCount()];
            for (int i = 0; i < turns.length; i++) {
                Class<?> to = target.type().parameterType(i);
                turns[i] = MethodHandles.identity(to).asType(MethodType.methodType(to, asked.parameterType(i)));
            }
        }

        Object turned(Object[] values) throws Throwable {
            Object[] turned = new Object[values.length];
            for (int i = 0; i < values.length; i++) turned[i] = turns[i].invokeWithArguments(values[i]);
            return target.invokeWithArguments(turned);
        }
    }

    private static MethodHandle turned(MethodHandle handle, MethodType asked) {
        if (handle.type().equals(asked)) return handle;
        MethodHandle turning = TURN.bindTo(new Turning(handle, asked));
        return turning.asCollector(Object[].class, asked.parameterCount()).asType(asked);
    }

    private static MethodHandle spread(MethodHandle handle, Class<?> row, int n) {
        MethodType asked = handle.type();
        for (int i = asked.parameterCount() - n; i < asked.parameterCount(); i++) {
            asked = asked.changeParameterType(i, row.getComponentType());
        }
        return turned(handle, asked).asSpreader(row, n);
    }

    private static MethodHandle collected(MethodHandle handle, Class<?> row, int n) {
        MethodType type = handle.type();
        // Java's own handle on identity does not look at this
        if (!type.parameterType(type.parameterCount() - 1).isAssignableFrom(row)) return null;
        return handle.asCollector(row, n);
    }

    private static final int[] KINDS = {0, 4, 4, 5, 7, 9, 9, 14, 15, 18, 24, 30, 31, 33, 40, 41};
    private static final MethodHandle WORK, TURN, NUMBER;

    static {
        try {
            MethodHandles.Lookup lookup = MethodHandles.lookup();
            WORK = lookup.findVirtual(Method.class, "worked", MethodType.methodType(Object.class, Object[].class));
            TURN = lookup.findVirtual(Turning.class, "turned", MethodType.methodType(Object.class, Object[].class));
            NUMBER = lookup.findStatic(MirrorTest.class, "failureOf", MethodType.methodType(int.class, Throwable.class));
        } catch (ReflectiveOperationException e) {
            throw new IllegalStateException(e);
        }
    }

    private final Random random;
    private final HandleMirror x = new HandleMirror();
    private final List<MethodHandle> handles = new ArrayList<>();
    private final List<Integer> costs = new ArrayList<>();
    private final List<MutableCallSite> sites = new ArrayList<>();
    private final List<Object> things = new ArrayList<>();
    private int calls;
    private static int ran;
    private static int brought;

    private MirrorTest(int seed) {
        random = new Random(seed);
    }

    public static void main(String[] args) {
        for (int seed = 0; seed < 1800; seed++) new MirrorTest(seed).play(seed);
        System.out.println("MirrorTest: " + ran + " runs, " + brought + " brought something");
        Check.due("many runs bring something", brought > ran / 5 ? 1 : 0, 1);
        Check.due("many fail", ran - brought > ran / 10 ? 1 : 0, 1);
        Check.end("MirrorTest");
    }

    /** The object at hand, which is used for a call. */
    private HandleMirror x() {
        calls++;
        return x;
    }

    private void play(int seed) {
        makeThings();
        for (int i = 0; i < 14; i++) addMethod();
        for (int i = 0; i < 30; i++) {
            for (int attempt = 0; attempt < 20 && calls < 250; attempt++) {
                if (combine("seed " + seed)) break;
            }
        }
        // what an object answers after 512 calls is free, and no run with its comparisons takes more than 60
        for (int i = 0; calls < 440; i++) run("seed " + seed + " run " + i);
        Check.due("seed " + seed + " handles", x().count(2), handles.size());
    }

    static Class<?> classOf(int kind) {
        Class<?>[] own = {Base.class, Left.class, Right.class, Last.class, Far.class};
        if (kind < 30) return TurnedTest.classOf(kind);
        return kind < 40 ? own[kind - 30] : own[kind - 40].arrayType();
    }

    private static int kindOf(Class<?> type) {
        for (int kind : Check.KINDS) {
            if (classOf(kind) == type) return kind;
        }
        throw new IllegalStateException("no kind: " + type);
    }

    private static long shapeOf(MethodType type) {
        int[] parameters = new int[type.parameterCount()];
        for (int i = 0; i < parameters.length; i++) parameters[i] = kindOf(type.parameterType(i));
        return Check.shape(kindOf(type.returnType()), parameters);
    }

    private static long numberOf(Object value) {
        if (value instanceof Boolean) return (Boolean) value ? 1 : 0;
        if (value instanceof Character) return (Character) value;
        if (value instanceof Number) return ((Number) value).longValue();
        if (value instanceof Base) return ((Base) value).tag;
        if (value == null) throw new NullPointerException();
        return Array.getLength(value);
    }

    private static Object made(long n, int kind) {
        int plain = kind >= 10 && kind < 18 ? kind - 10 : kind == 9 || kind == 18 ? 5 : kind;
        switch (plain) {
            case 0: return (n & 1) == 1;
            case 1: return (byte) n;
            case 2: return (short) n;
            case 3: return (char) n;
            case 4: return (int) n;
            case 5: return n;
            case 6: return (float) n;
            case 7: return (double) n;
            case 8: return null;
            default: return madeThing(n, kind);
        }
    }

    private static Object madeThing(long n, int kind) {
        if (kind < 30 || kind >= 40) return Array.newInstance(classOf(kind).getComponentType(), Math.min((int) n, 8));
        Base[] all = {new Base(), new Left(), new Right(), new Last(), new Far()};
        all[kind - 30].tag = (int) n;
        return all[kind - 30];
    }

    static int failureOf(Throwable failure) {
        if (failure instanceof NullPointerException) return 1;
        if (failure instanceof ClassCastException) return 2;
        if (failure instanceof ArrayIndexOutOfBoundsException) return 3;
        if (failure instanceof ArrayStoreException) return 4;
        if (failure instanceof NegativeArraySizeException) return 5;
        if (failure instanceof ArithmeticException) return 6;
        if (failure instanceof Raised) return 7;
        if (failure instanceof IllegalArgumentException) return 8;
        throw new IllegalStateException(failure);
    }

    private static Class<? extends Throwable> classOfFailure(int failure) {
        List<Class<? extends Throwable>> all = List.of(RuntimeException.class, NullPointerException.class,
            ClassCastException.class, ArrayIndexOutOfBoundsException.class, ArrayStoreException.class,
            NegativeArraySizeException.class, ArithmeticException.class, Raised.class, IllegalArgumentException.class);
        return all.get(failure);
    }

    private int kind() {
        return KINDS[random.nextInt(KINDS.length)];
    }

    private void makeThings() {
        int[] kinds = {30, 31, 32, 33, 34, 40, 41, 43, 24, 24};
        for (int i = 0; i < kinds.length; i++) {
            int n = random.nextInt(4);
            int number = kinds[i] >= 30 && kinds[i] < 40 ? x().object(kinds[i] - 30, n) : x().row(kinds[i], n);
            Check.due("thing", number, things.size());
            things.add(madeThing(n, kinds[i]));
        }
    }

    private void add(int number, MethodHandle handle, int cost, String what) {
        Check.due(what, number, handles.size());
        Check.due(what + ": shape", x().shape(number), shapeOf(handle.type()));
        handles.add(handle);
        costs.add(cost);
        sites.add(null);
    }

    private void addMethod() {
        int[] acts = {0, 0, 1, 2, 3, 4, 5, 6};
        int act = acts[random.nextInt(acts.length)];
        int[] fewest = {0, 2, 2, 3, 0, 1, 0};
        int[] parameters = new int[fewest[act] + random.nextInt(5 - fewest[act])];
        for (int i = 0; i < parameters.length; i++) parameters[i] = kind();
        int[] rows = {24, 40, 41};
        if (act == 2 || act == 3) parameters[0] = rows[random.nextInt(3)];
        int result = random.nextInt(6) == 0 ? 8 : kind();
        if (act == 5) {
            parameters[0] = 9;
            result = result < 9 ? 30 : result;
        }
        boolean isStatic = act != 6 && random.nextBoolean();
        Method method = new Method(x().count(1), isStatic, act, result, parameters);
        long shape = Check.shape(result, parameters);
        int name = x().count(1);
        Check.due("method", x().method(0, name, isStatic ? 1 : 0, act, shape), name);
        MethodType type = MethodType.methodType(classOf(result));
        if (!isStatic) type = type.appendParameterTypes(Base.class);
        for (int kind : parameters) type = type.appendParameterTypes(classOf(kind));
        MethodHandle handle = WORK.bindTo(method).asCollector(Object[].class, type.parameterCount()).asType(type);
        add(x().find(isStatic ? 1 : 0, 0, name, shape, 0), handle, 1, "method");
    }

    private int any() {
        return random.nextInt(handles.size());
    }

    /** Makes one handle out of others, here and there; whether that could be. */
    private boolean combine(String what) {
        int h = any();
        int g = any();
        MethodHandle handle = handles.get(h);
        if (costs.get(h) + costs.get(g) > 60) return false;
        int cost = costs.get(h) + 1;
        int pair = costs.get(h) + costs.get(g) + 1;
        int size = handle.type().parameterCount();
        int at = size == 0 ? 0 : random.nextInt(size);
        switch (random.nextInt(14)) {
            case 0: return asOther(h, handle, cost, what);
            case 1: return bindOne(h, handle, at, cost, what);
            case 2: {
                if (size == 6) return false;
                int kind = kind();
                MethodHandle made = MethodHandles.dropArguments(handle, at, classOf(kind));
                add(x().drop(h, at, kind), made, cost, what + " drop");
                return true;
            }
            case 3: return permuteAny(h, handle, cost, what);
            case 4: {
                if (size == 0) return false;
                MethodHandle made = tried(() -> MethodHandles.filterArguments(handle, at, handles.get(g)));
                return sameAnswer(made, () -> x().filter(h, at, g), pair, what + " filter");
            }
            case 5: {
                MethodHandle made = tried(() -> MethodHandles.foldArguments(handle, handles.get(g)));
                return sameAnswer(made, () -> x().fold(h, g), pair, what + " fold");
            }
            case 6: {
                MethodHandle made = tried(() -> MethodHandles.filterReturnValue(handle, handles.get(g)));
                return sameAnswer(made, () -> x().after(h, g), pair, what + " after");
            }
            case 7: {
                int test = any();
                MethodHandle made = tried(() -> MethodHandles.guardWithTest(handles.get(test), handle, handles.get(g)));
                return sameAnswer(made, () -> x().guard(test, h, g), pair + costs.get(test), what + " guard");
            }
            case 8: {
                int failure = random.nextInt(9);
                MethodHandle made = tried(() -> catching(handle, failure, handles.get(g)));
                return sameAnswer(made, () -> x().caught(h, failure, g), pair, what + " caught");
            }
            case 9: {
                int n = random.nextInt(size + 1);
                int row = kind();
                if (row != 24 && row < 40 || size - n >= 6) return false;
                MethodHandle made = tried(() -> spread(handle, classOf(row), n));
                return sameAnswer(made, () -> x().spread(h, row, n), cost, what + " spread");
            }
            case 10: {
                int n = random.nextInt(4);
                int row = kind();
                if (row != 24 && row < 40 || size == 0 || size - 1 + n > 6) return false;
                MethodHandle made = tried(() -> collected(handle, classOf(row), n));
                return sameAnswer(made, () -> x().collect(h, row, n), cost, what + " collect");
            }
            case 11: return elements(what);
            case 12: return addSite(h, handle, cost, what);
            default: return setTarget(h, handle, what);
        }
    }

    interface Made {
        MethodHandle made();
    }

    interface Answer {
        int answer();
    }

    private static MethodHandle tried(Made made) {
        try {
            return made.made();
        } catch (RuntimeException e) {
            return null;
        }
    }

    private boolean sameAnswer(MethodHandle made, Answer answer, int cost, String what) {
        if (made != null) {
            add(answer.answer(), made, cost, what);
        } else if (random.nextInt(10) == 0) {
            Check.due(what + " refused", answer.answer(), Check.WRONG_TYPE);
        }
        return made != null;
    }

    private static MethodHandle catching(MethodHandle h, int failure, MethodHandle g) {
        Class<? extends Throwable> type = classOfFailure(failure);
        MethodHandle number = NUMBER.asType(MethodType.methodType(int.class, type));
        return MethodHandles.catchException(h, type, MethodHandles.filterArguments(g, 0, number));
    }

    private boolean asOther(int h, MethodHandle handle, int cost, String what) {
        MethodType type = handle.type().changeReturnType(classOf(random.nextInt(8) == 0 ? 8 : kind()));
        for (int i = 0; i < type.parameterCount(); i++) {
            if (random.nextBoolean()) type = type.changeParameterType(i, classOf(kind()));
        }
        MethodType asked = type;
        if (asked.equals(handle.type())) {
            Check.due(what + " as itself", x().as(h, shapeOf(asked)), h);
            return false;
        }
        return sameAnswer(tried(() -> turned(handle, asked)), () -> x().as(h, shapeOf(asked)), cost, what + " as");
    }

    private boolean bindOne(int h, MethodHandle handle, int at, int cost, String what) {
        if (at >= handle.type().parameterCount()) return false;
        Class<?> type = handle.type().parameterType(at);
        x().forget();
        Object value = give(kindOf(type));
        MethodHandle made = MethodHandles.insertArguments(handle, at, value);
        add(x().bind(h, at), made, cost, what + " bind");
        return true;
    }

    private boolean permuteAny(int h, MethodHandle handle, int cost, String what) {
        int size = random.nextInt(4);
        MethodType type = MethodType.methodType(handle.type().returnType());
        for (int i = 0; i < size; i++) type = type.appendParameterTypes(classOf(kind()));
        int[] order = new int[handle.type().parameterCount()];
        int digits = 0;
        int power = 1;
        for (int i = 0; i < order.length; i++) {
            int place = type.parameterList().indexOf(handle.type().parameterType(i));
            if (place < 0) {
                if (type.parameterCount() == 6) return false;
                place = type.parameterCount();
                type = type.appendParameterTypes(handle.type().parameterType(i));
            }
            order[i] = place;
            digits += power * place;
            power *= 10;
        }
        add(x().permute(h, digits, shapeOf(type)), MethodHandles.permuteArguments(handle, type, order), cost, what + " permute");
        return true;
    }

    private boolean elements(String what) {
        int[] rows = {24, 40, 41};
        int row = rows[random.nextInt(3)];
        switch (random.nextInt(6)) {
            case 0: add(x().element(0, row), MethodHandles.arrayElementGetter(classOf(row)), 1, what + " get"); break;
            case 1: add(x().element(1, row), MethodHandles.arrayElementSetter(classOf(row)), 1, what + " set"); break;
            case 2: add(x().element(2, row), MethodHandles.arrayLength(classOf(row)), 1, what + " length"); break;
            case 3: {
                int kind = kind();
                add(x().same(kind), MethodHandles.identity(classOf(kind)), 1, what + " same");
                break;
            }
            case 4: {
                x().forget();
                int kind = kind();
                Object value = give(kind);
                add(x().constant(), MethodHandles.constant(classOf(kind), value), 1, what + " constant");
                break;
            }
            default: return false;
        }
        return true;
    }

    private boolean addSite(int h, MethodHandle handle, int cost, String what) {
        MutableCallSite site = new MutableCallSite(handle);
        add(x().site(h), site.dynamicInvoker(), cost, what + " site");
        sites.set(sites.size() - 1, site);
        return true;
    }

    private boolean setTarget(int h, MethodHandle handle, String what) {
        for (int s = h + 1; s < sites.size(); s++) {
            // not one that costs more than what the site was reckoned with
            if (sites.get(s) == null || costs.get(h) >= costs.get(s)) continue;
            if (!handle.type().equals(sites.get(s).type())) continue;
            Check.due(what + " target", x().target(s, h) >= 0 ? 1 : 0, 1);
            sites.get(s).setTarget(handle);
            return true;
        }
        return false;
    }

    /** A value of a kind, behind the args here, and as an object there. */
    private Object give(int kind) {
        long n = random.nextInt(5) - 1;
        if (kind < 8) {
            long bits = kind == 7 ? Double.doubleToRawLongBits((double) n) : n;
            x().arg(kind, bits);
            return made(n, kind);
        }
        if (kind >= 10 && kind < 18 && random.nextInt(6) != 0) {
            x().arg(kind, n);
            return made(n, kind);
        }
        int from = random.nextInt(things.size());
        for (int i = 0; i < things.size() && random.nextInt(10) != 0; i++) {
            int thing = (from + i) % things.size();
            if (classOf(kind).isInstance(things.get(thing))) {
                x().give(kind, thing);
                return things.get(thing);
            }
        }
        x().give(kind, -1);
        return null;
    }

    private void run(String what) {
        int h = any();
        MethodType type = handles.get(h).type();
        boolean exact = random.nextBoolean();
        MethodType asked = MethodType.methodType(type.returnType());
        List<Object> values = new ArrayList<>();
        x().forget();
        for (int i = 0; i < type.parameterCount(); i++) {
            int own = kindOf(type.parameterType(i));
            int kind = !exact && own >= 9 && random.nextInt(3) == 0 ? kind() : own;
            asked = asked.appendParameterTypes(classOf(kind));
            values.add(give(kind));
        }
        if (!exact && random.nextInt(3) == 0) asked = asked.changeReturnType(classOf(kind()));
        MethodType goal = asked;
        MethodHandle handle = exact ? handles.get(h) : tried(() -> turned(handles.get(h), goal));
        int answer = x().run(h, exact, kindOf(asked.returnType()));
        if (handle == null) {
            Check.due(what + " refused", answer, Check.WRONG_TYPE);
            return;
        }
        ran++;
        compare(what + " of " + h, handle, values, answer);
    }

    private void compare(String what, MethodHandle handle, List<Object> values, int answer) {
        Object result;
        try {
            result = handle.invokeWithArguments(values);
        } catch (Throwable failure) {
            Check.due(what + " fails", answer, -failureOf(failure));
            sameThings(what);
            return;
        }
        brought++;
        Check.due(what, answer, 1);
        Class<?> type = handle.type().returnType();
        if (type != void.class) {
            int kind = type.isPrimitive() ? kindOf(type) : result == null ? -1 : kindOf(result.getClass());
            Check.due(what + ": kind", x().result(1), kind);
            Check.due(what + ": bits", x().result(2), result == null ? 0 : bitsOf(result));
        }
        sameThings(what);
    }

    private static long bitsOf(Object value) {
        if (value instanceof Double) return Double.doubleToRawLongBits((Double) value);
        if (value instanceof Float) return Float.floatToRawIntBits((Float) value);
        return numberOf(value);
    }

    private void sameThings(String what) {
        for (int thing = 0; thing < things.size(); thing++) {
            Object own = things.get(thing);
            Check.due(what + ": thing " + thing, x().told(thing, 1, 0), numberOf(own));
            if (own instanceof Base) continue;
            for (int i = 0; i < Array.getLength(own); i++) {
                Object element = Array.get(own, i);
                long want = element == null ? -1 : own instanceof int[] ? (Integer) element : identity(element);
                Check.due(what + ": element " + i + " of " + thing, x().told(thing, 2, i), want);
            }
        }
    }

    private long identity(Object element) {
        for (int thing = 0; thing < things.size(); thing++) {
            if (things.get(thing) == element) return thing;
        }
        return -2;
    }
}
