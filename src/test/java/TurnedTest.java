import java.lang.invoke.MethodHandle;
import java.lang.invoke.MethodHandles;
import java.lang.invoke.MethodType;
import java.lang.invoke.WrongMethodTypeException;

/** Which kinds can be turned to which others, compared with what Java's own method handles allow. */
public final class TurnedTest {
    static class Base {
    }

    static class Left extends Base {
    }

    static class Right extends Base {
    }

    static class Last extends Left {
    }

    static class Far extends Right {
    }

    public static void main(String[] args) {
        for (int from : Check.KINDS) {
            for (int to : Check.KINDS) {
                if (from != Check.NOTHING && to != Check.NOTHING) parameter(from, to);
                result(from, to);
            }
        }
        Check.end("TurnedTest");
    }

    static Class<?> classOf(int kind) {
        Class<?>[] classes = {boolean.class, byte.class, short.class, char.class, int.class, long.class, float.class, double.class,
            void.class, Object.class, Boolean.class, Byte.class, Short.class, Character.class, Integer.class, Long.class,
            Float.class, Double.class, Number.class};
        Class<?>[] own = {Base.class, Left.class, Right.class, Last.class, Far.class};
        if (kind < classes.length) return classes[kind];
        if (kind < 30) return classes[kind - 20].arrayType();
        return kind < 40 ? own[kind - 30] : own[kind - 40].arrayType();
    }

    private static boolean canBe(MethodType own, MethodType asked) {
        MethodHandle handle = MethodHandles.empty(own);
        try {
            handle.asType(asked);
            return true;
        } catch (WrongMethodTypeException e) {
            return false;
        }
    }

    private static void parameter(int from, int to) {
        HandleMirror x = new HandleMirror();
        x.method(0, 0, 1, 0, Check.shape(Check.INT, to));
        int h = x.find(1, 0, 0, Check.shape(Check.INT, to), 0);
        boolean can = canBe(MethodType.methodType(int.class, classOf(to)), MethodType.methodType(int.class, classOf(from)));
        int answer = x.as(h, Check.shape(Check.INT, from));
        Check.due("parameter " + from + " to " + to, answer, from == to ? h : can ? h + 1 : Check.WRONG_TYPE);
    }

    private static void result(int from, int to) {
        HandleMirror x = new HandleMirror();
        x.method(0, 0, 1, 0, Check.shape(from));
        int h = x.find(1, 0, 0, Check.shape(from), 0);
        boolean can = canBe(MethodType.methodType(classOf(from)), MethodType.methodType(classOf(to)));
        int answer = x.as(h, Check.shape(to));
        Check.due("result " + from + " to " + to, answer, from == to ? h : can ? h + 1 : Check.WRONG_TYPE);
    }
}
