import java.util.Random;

/** Any calls with any numbers: none throws, a refused one changes nothing, the same calls give the same answers. */
public final class AnyCallsTest {
    private static final int[] EDGES = {Integer.MIN_VALUE, Integer.MAX_VALUE, -1, -2, 0, 1, 2, 5, 6, 7, 8, 15, 16, 24, 60, 61, 255};

    private final Random random;
    private final HandleMirror x = new HandleMirror();

    private AnyCallsTest(int seed) {
        random = new Random(seed);
    }

    public static void main(String[] args) {
        for (int seed = 0; seed < 1500; seed++) {
            String first = new AnyCallsTest(seed).play(seed, true);
            Check.due("the same again, seed " + seed, first.equals(new AnyCallsTest(seed).play(seed, false)) ? 1 : 0, 1);
        }
        for (int seed = 0; seed < 20; seed++) new AnyCallsTest(seed).playLong();
        Check.end("AnyCallsTest");
    }

    private String play(int seed, boolean compared) {
        StringBuilder answers = new StringBuilder();
        for (int i = 0; i < 250; i++) {
            String before = compared ? Check.state(x) : "";
            int call = random.nextInt(48);
            long answer = call(call);
            answers.append(answer).append(' ');
            if (compared && isRefused(call, answer)) {
                Check.due("unchanged, seed " + seed + " call " + i, before.equals(Check.state(x)) ? 1 : 0, 1);
            }
            if (call >= 36 && call < 42 && answer >= 0) Check.due("a run brought something, seed " + seed, answer, 1);
        }
        return answers.toString();
    }

    /** What later calls answer is free; they must not throw all the same. */
    private void playLong() {
        for (int i = 0; i < 20000; i++) call(random.nextInt(48));
        Check.due("not too many things", x.count(0) <= 60 ? 1 : 0, 1);
        Check.due("not too many made", x.count(4) <= 8000 ? 1 : 0, 1);
    }

    /** A run may end by a failure, and has changed what it changed; some calls here are several ones. */
    private static boolean isRefused(int call, long answer) {
        boolean isRun = call >= 36 && call < 42;
        if (call == 13 || call >= 36 && call < 40) return false;
        return answer <= HandleMirror.UNKNOWN || !isRun && answer < 0 || isTelling(call);
    }

    private static boolean isTelling(int call) {
        return call == 6 || call == 35 || call == 42 || call == 44 || call == 45;
    }

    private int number(int most) {
        return random.nextInt(12) == 0 ? EDGES[random.nextInt(EDGES.length)] : random.nextInt(most + 1);
    }

    private int kind() {
        return random.nextInt(12) == 0 ? EDGES[random.nextInt(EDGES.length)] : Check.KINDS[random.nextInt(Check.KINDS.length)];
    }

    private int row() {
        return random.nextInt(8) == 0 ? kind() : random.nextBoolean() ? 24 : 40 + random.nextInt(5);
    }

    private long shape(int most) {
        if (random.nextInt(12) == 0) return random.nextLong() >> random.nextInt(64);
        int[] few = {4, 4, 4, 9, 24, 30};
        int[] parameters = new int[random.nextInt(most + 1)];
        for (int i = 0; i < parameters.length; i++) parameters[i] = random.nextInt(4) == 0 ? kind() & 63 : few[random.nextInt(6)];
        return Check.shape(random.nextInt(4) == 0 ? kind() & 63 : few[random.nextInt(6)], parameters);
    }

    private int handle() {
        return number(Math.max(x.count(2) - 1, 0));
    }

    private long call(int call) {
        if (call < 12) return thingsAndMembers(call);
        if (call < 24) return handles(call);
        return more(call);
    }

    private long thingsAndMembers(int call) {
        switch (call) {
            case 0: return x.object(number(4), number(9));
            case 1: return x.row(row(), number(8));
            case 2: case 3: return x.arg(kind(), random.nextLong() >> random.nextInt(64));
            case 4: return x.give(kind(), number(Math.max(x.count(0), 1)) - 1);
            case 5: return x.forget();
            case 6: return x.told(number(60) - 1, number(3), number(24));
            case 7: return x.nest(number(4), number(4));
            case 8: case 9: return x.method(number(4), number(15), number(7), number(7), shape(4));
            case 10: return x.field(number(4), number(15), number(11), kind());
            default: return x.maker(number(4), number(6), shape(4) & ~255L | 9);
        }
    }

    private long handles(int call) {
        switch (call) {
            case 12: return x.find(number(5), number(4), number(15), shape(4), number(4));
            case 13: return findKnown();
            case 14: return x.as(handle(), shape(6));
            case 15: return x.bind(handle(), number(3));
            case 16: return x.drop(handle(), number(3), kind());
            case 17: return x.permute(handle(), number(222), shape(6));
            case 18: return x.filter(handle(), number(3), handle());
            case 19: return x.fold(handle(), handle());
            case 20: return x.after(handle(), handle());
            case 21: return x.guard(handle(), handle(), handle());
            case 22: return x.caught(handle(), number(8), handle());
            default: return x.spread(handle(), row(), number(3));
        }
    }

    private long findKnown() {
        long shape = shape(2);
        x.method(0, 1, 1, 0, shape);
        return x.find(1, 0, 1, shape, 0);
    }

    private long more(int call) {
        switch (call) {
            case 24: return x.collect(handle(), row(), number(3));
            case 25: case 26: return x.varied(handle());
            case 27: return x.element(number(3), row());
            case 28: return x.constant();
            case 29: case 30: return x.same(kind());
            case 31: case 32: return x.site(handle());
            case 33: case 34: return x.target(handle(), handle());
            case 35: return x.shape(handle());
            case 36: case 37: return fitted(random.nextInt(60), true);
            case 38: case 39: return fitted(random.nextInt(60), false);
            case 40: return x.run(handle(), random.nextBoolean(), kind());
            case 41: return x.direct(number(23), kind());
            case 42: return x.result(number(2));
            case 43: return x.keep();
            case 44: return x.last(number(3));
            case 45: return x.count(number(20));
            default: return x.arg(random.nextInt(8), random.nextInt(5));
        }
    }

    /** A run with values of the kinds that the handle asks for, if there is such a handle. */
    private long fitted(int h, boolean exact) {
        long shape = x.shape(h);
        if (shape < 0) return x.run(h, exact, 4);
        x.forget();
        for (int i = 1; i < 7; i++) {
            int kind = (int) (shape >>> 8 * i & 255) - 1;
            if (kind < 0) break;
            if (kind < 8 || kind >= 10 && kind < 18 && random.nextBoolean()) x.arg(kind, random.nextInt(5));
            else if (x.give(kind, random.nextInt(Math.max(x.count(0), 1))) < 0) x.give(kind, -1);
        }
        return x.run(h, exact, (int) (shape & 255) - 1);
    }
}
