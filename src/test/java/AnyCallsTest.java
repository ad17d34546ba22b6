import java.util.ArrayList;
import java.util.List;
import java.util.Random;

/**
 * Any calls with any numbers: none throws, the same calls give the same answers, and calls that are refused, or that
 * ask, change nothing: without them the others answer as before, and all that can be asked is the same in the end.
 */
public final class AnyCallsTest extends Bounds {
    private static final int[] EDGES = {Integer.MIN_VALUE, Integer.MAX_VALUE, -1, -2, 0, 1, 2, 5, 6, 7, 8, 15, 16, 24, 60, 61, 255};

    private final Random random;
    private final HandleMirror x = new HandleMirror();
    // hears the same calls, and is asked what to call next, so that x hears the calls alone
    private final HandleMirror shadow = new HandleMirror();
    private final List<Call> calls = new ArrayList<>();
    private final List<Long> answers = new ArrayList<>();
    private final List<Boolean> silent = new ArrayList<>();

    private AnyCallsTest(int seed) {
        random = new Random(seed);
    }

    public static void main(String[] args) {
        sentence("Terms", "they change nothing. (What is told as minus a FAILURE likewise, but of RUNS.)");
        for (int seed = 0; seed < 3000; seed++) {
            AnyCallsTest test = new AnyCallsTest(seed);
            while (test.calls.size() < 150) test.call(test.random.nextInt(48));
            String end = asked(test.x);
            due("the same again, seed " + seed, test.again(seed, true).equals(end) ? 1 : 0, 1);
            due("the same without refused calls, seed " + seed, test.again(seed, false).equals(end) ? 1 : 0, 1);
        }
        for (int seed = 0; seed < 20; seed++) new AnyCallsTest(seed).playLong();
        boxesWithoutEnd();
        Check.end("AnyCallsTest");
    }

    /** BOXES that no call can reach any more are not heaped up for ever: all that 512 calls bring is kept, and then FULL. */
    private static void boxesWithoutEnd() {
        HandleMirror x = new HandleMirror();
        int refused = 0;
        for (int i = 0; i < 100000; i++) {
            int answer = x.arg(10 + i % 8, i);
            due("call " + i, answer, i < 512 || answer > 0 ? i % 6 + 1 : FULL);
            if (answer == FULL) refused++;
            if (i % 6 == 5) x.forget();
        }
        due("boxes are refused in the end", refused > 80000 ? 1 : 0, 1);
        x.forget();
        due("what is no box still comes", x.arg(INT, 1), 1);
    }

    /** All calls again, or all but those that change nothing; what can be asked in the end. */
    private String again(int seed, boolean all) {
        HandleMirror y = new HandleMirror();
        for (int i = 0; i < calls.size(); i++) {
            if (all || !silent.get(i)) due("seed " + seed + " call " + i, calls.get(i).on(y), answers.get(i));
        }
        return asked(y);
    }

    /** What later calls answer is free; they must not throw all the same. */
    private void playLong() {
        for (int i = 0; i < 20000; i++) call(random.nextInt(48));
        due("not too many things", x.count(0) <= 60 ? 1 : 0, 1);
        due("not too many made", x.count(4) <= 8000 ? 1 : 0, 1);
    }

    /** A call that is refused by an answer below 0. */
    private void act(Call call) {
        heard(call, false);
    }

    /** A call that asks, and is told any number. */
    private void ask(Call call) {
        heard(call, true);
    }

    /** A run, which may end by a failure, and has changed what it changed. */
    private void work(Call call) {
        long answer = heard(call, false);
        silent.set(silent.size() - 1, answer <= UNKNOWN);
        if (answer >= 0) due("a run brought something", answer, 1);
    }

    private long heard(Call call, boolean asks) {
        long answer = call.on(x);
        call.on(shadow);
        calls.add(call);
        answers.add(answer);
        silent.add(asks || answer < 0);
        return answer;
    }

    private int number(int most) {
        return random.nextInt(12) == 0 ? EDGES[random.nextInt(EDGES.length)] : random.nextInt(most + 1);
    }

    private int kind() {
        return random.nextInt(12) == 0 ? EDGES[random.nextInt(EDGES.length)] : Check.KINDS[random.nextInt(Check.KINDS.length)];
    }

    private int row() {
        return random.nextInt(8) == 0 ? kind() : random.nextBoolean() ? 24 : 40 + random.nextInt(5);
    }

    private long shape(int most) {
        if (random.nextInt(12) == 0) return random.nextLong() >> random.nextInt(64);
        int[] few = {4, 4, 4, 9, 24, 30};
        int[] parameters = new int[random.nextInt(most + 1)];
        for (int i = 0; i < parameters.length; i++) parameters[i] = random.nextInt(4) == 0 ? kind() & 63 : few[random.nextInt(6)];
        return Check.shape(random.nextInt(4) == 0 ? kind() & 63 : few[random.nextInt(6)], parameters);
    }

    private int handle() {
        return number(Math.max(shadow.count(2) - 1, 0));
    }

    private void call(int call) {
        if (call < 12) thingsAndMembers(call);
        else if (call < 24) handles(call);
        else more(call);
    }

    private void thingsAndMembers(int call) {
        int a = number(4);
        int b = number(15);
        int kind = kind();
        long shape = shape(4);
        switch (call) {
            case 0: act(y -> y.object(a, b)); break;
            case 1: int row = row(); int n = number(8); act(y -> y.row(row, n)); break;
            case 2: case 3: long bits = random.nextLong() >> random.nextInt(64); act(y -> y.arg(kind, bits)); break;
            case 4: int thing = number(Math.max(shadow.count(0), 1)) - 1; act(y -> y.give(kind, thing)); break;
            case 5: act(HandleMirror::forget); break;
            case 6: int told = number(10) - 1; int i = number(24); ask(y -> y.told(told, a, i)); break;
            case 7: int nest = number(4); act(y -> y.nest(a, nest)); break;
            case 8: case 9: int m = number(7); int act = number(7); act(y -> y.method(a, b, m, act, shape)); break;
            case 10: int marks = number(11); act(y -> y.field(a, b, marks, kind)); break;
            default: int mark = number(6); act(y -> y.maker(a, mark, shape & ~255L | 9));
        }
    }

    private void handles(int call) {
        int h = handle();
        int g = handle();
        int at = number(3);
        int kind = kind();
        switch (call) {
            case 12: found(); break;
            case 13: findKnown(); break;
            case 14: long as = shape(6); act(y -> y.as(h, as)); break;
            case 15: act(y -> y.bind(h, at)); break;
            case 16: act(y -> y.drop(h, at, kind)); break;
            case 17: int order = number(222); long shape = shape(6); act(y -> y.permute(h, order, shape)); break;
            case 18: act(y -> y.filter(h, at, g)); break;
            case 19: act(y -> y.fold(h, g)); break;
            case 20: act(y -> y.after(h, g)); break;
            case 21: int test = handle(); act(y -> y.guard(test, h, g)); break;
            case 22: int failure = number(8); act(y -> y.caught(h, failure, g)); break;
            default: int row = row(); act(y -> y.spread(h, row, at));
        }
    }

    private void found() {
        int how = number(5);
        int c = number(4);
        int name = number(15);
        int asker = number(4);
        long shape = shape(4);
        act(y -> y.find(how, c, name, shape, asker));
    }

    private void findKnown() {
        long shape = shape(2);
        act(y -> y.method(0, 1, 1, 0, shape));
        act(y -> y.find(1, 0, 1, shape, 0));
    }

    private void more(int call) {
        int h = handle();
        int g = handle();
        int n = number(3);
        int row = row();
        int kind = kind();
        switch (call) {
            case 24: act(y -> y.collect(h, row, n)); break;
            case 25: case 26: act(y -> y.varied(h)); break;
            case 27: act(y -> y.element(n, row)); break;
            case 28: act(HandleMirror::constant); break;
            case 29: case 30: act(y -> y.same(kind)); break;
            case 31: case 32: act(y -> y.site(h)); break;
            case 33: case 34: act(y -> y.target(h, g)); break;
            case 35: ask(y -> y.shape(h)); break;
            case 36: case 37: fitted(random.nextInt(60), true); break;
            case 38: case 39: fitted(random.nextInt(60), false); break;
            case 40: boolean exact = random.nextBoolean(); work(y -> y.run(h, exact, kind)); break;
            case 41: int m = number(23); work(y -> y.direct(m, kind)); break;
            case 42: ask(y -> y.result(n)); break;
            case 43: act(HandleMirror::keep); break;
            case 44: ask(y -> y.last(n)); break;
            case 45: int what = number(20); ask(y -> y.count(what)); break;
            default: int plain = random.nextInt(8); int bits = random.nextInt(5); act(y -> y.arg(plain, bits));
        }
    }

    /** A run with values of the kinds that the handle asks for, if there is such a handle. */
    private void fitted(int h, boolean exact) {
        long shape = shadow.shape(h);
        act(HandleMirror::forget);
        for (int i = 1; i < 7 && shape >= 0; i++) {
            int kind = (int) (shape >>> 8 * i & 255) - 1;
            if (kind < 0) break;
            int bits = random.nextInt(5);
            int thing = random.nextInt(Math.max(shadow.count(0), 1));
            boolean plain = kind < 8 || kind >= 10 && kind < 18 && random.nextBoolean();
            if (plain) act(y -> y.arg(kind, bits));
            else act(y -> y.give(kind, thing));
            if (!plain && answers.get(answers.size() - 1) < 0) act(y -> y.give(kind, NONE));
        }
        int result = shape < 0 ? INT : (int) (shape & 255) - 1;
        work(y -> y.run(h, exact, result));
    }
}
