import java.util.Random;

/** Casts and widening of floats and doubles, compared with what this language does. */
public final class NumbersTest {
    private static final int[] PLAIN = {1, 2, 3, 4, 5, 6, 7};
    private static final Random RANDOM = new Random(42);

    private static HandleMirror mirror;
    private static int calls;

    public static void main(String[] args) {
        long[] edges = {0, 1, -1, 2, 127, 128, -128, 255, 65535, 1 << 24, (1 << 24) + 1, (1 << 24) + 3, Integer.MAX_VALUE,
            Integer.MIN_VALUE, 1L << 53, (1L << 53) + 1, (1L << 53) + 3, -(1L << 53) - 1, Long.MAX_VALUE, Long.MIN_VALUE,
            Long.MAX_VALUE - 511, Long.MAX_VALUE - 512, Long.MIN_VALUE + 1, 0x7fffff4000000000L, 0x7fffffbfffffffffL};
        for (long edge : edges) {
            fromLong(edge);
            widen(edge);
        }
        float[] floats = {0f, -0f, Float.MIN_VALUE, -Float.MIN_VALUE, Float.MIN_NORMAL, Math.nextDown(Float.MIN_NORMAL), 1f,
            0.99999994f, -1.5f, 1e10f, 9.223372E18f, -9.223372E18f, Math.nextDown(9.223372E18f), Float.MAX_VALUE,
            Float.POSITIVE_INFINITY, Float.NEGATIVE_INFINITY};
        for (float value : floats) ofFloat(value);
        double[] doubles = {0, -0.0, Double.MIN_VALUE, 0.5, -0.999, 1, 1e15 + 0.5, 4503599627370497.5, 9.223372036854775807E18,
            Math.nextDown(0x1p63), -0x1p63, Math.nextDown(-0x1p63), 1e300, Double.POSITIVE_INFINITY, Double.NEGATIVE_INFINITY};
        for (double value : doubles) ofDouble(value);
        for (int i = 0; i < 3000; i++) {
            long n = RANDOM.nextLong() >> RANDOM.nextInt(64);
            fromLong(n);
            widen(n);
            float value = Float.intBitsToFloat(RANDOM.nextInt() >> RANDOM.nextInt(32));
            if (value == value) ofFloat(value);
            double number = Double.longBitsToDouble(RANDOM.nextLong());
            if (number == number) ofDouble(number);
            ofDouble(RANDOM.nextLong() / 1000.0);
        }
        Check.end("NumbersTest");
    }

    /** An object is used for at most 512 calls. */
    private static HandleMirror fresh() {
        if (mirror == null || calls >= 70) {
            mirror = new HandleMirror();
            calls = 0;
            mirror.method(0, 0, 1, 0, Check.shape(Check.LONG, Check.FLOAT));
            mirror.method(0, 0, 1, 0, Check.shape(Check.LONG, Check.DOUBLE));
            mirror.method(0, 0, 1, 0, Check.shape(Check.FLOAT, Check.LONG));
            mirror.method(0, 0, 1, 0, Check.shape(Check.DOUBLE, Check.LONG));
            for (int kind : PLAIN) mirror.same(kind);
        }
        calls++;
        return mirror;
    }

    /** A sum of member m, less what its number adds. */
    private static void sum(String what, int m, int kind, long bits, int result, long want) {
        HandleMirror x = fresh();
        x.arg(kind, bits);
        Check.due(what, x.direct(m, result), 1);
        Check.due(what, x.result(2), want);
    }

    private static void fromLong(long n) {
        sum("float of " + n, 2, Check.LONG, n - 2000, Check.FLOAT, Float.floatToRawIntBits((float) n));
        sum("double of " + n, 3, Check.LONG, n - 3000, Check.DOUBLE, Double.doubleToRawLongBits((double) n));
    }

    private static void ofFloat(float value) {
        long bits = Float.floatToRawIntBits(value);
        sum("long of " + value, 0, Check.FLOAT, bits, Check.LONG, (long) value);
        turned("double of " + value, Check.FLOAT, bits, Check.DOUBLE, Double.doubleToRawLongBits(value));
    }

    private static void ofDouble(double value) {
        sum("long of " + value, 1, Check.DOUBLE, Double.doubleToRawLongBits(value), Check.LONG, 1000 + (long) value);
    }

    private static void turned(String what, int from, long bits, int to, long want) {
        HandleMirror x = fresh();
        x.arg(from, bits);
        Check.due(what, x.run(to - 1, false, to), 1);
        Check.due(what, x.result(2), want);
        x.arg(10 + from, bits);
        Check.due(what, x.run(to - 1, false, to), 1);
        Check.due(what + ", out of a box", x.result(2), want);
    }

    private static void widen(long n) {
        integers(Check.BYTE, (byte) n);
        integers(Check.SHORT, (short) n);
        integers(Check.CHAR, (char) n);
        integers(Check.INT, (int) n);
        integers(Check.LONG, n);
    }

    private static void integers(int from, long n) {
        for (int to = Math.max(from, Check.INT); to <= Check.LONG; to++) turned(n + " to " + to, from, n, to, n);
        turned(n + " to float", from, n, Check.FLOAT, Float.floatToRawIntBits((float) n));
        turned(n + " to double", from, n, Check.DOUBLE, Double.doubleToRawLongBits((double) n));
    }
}
