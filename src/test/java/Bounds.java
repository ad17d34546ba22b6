import java.io.IOException;
import java.io.UncheckedIOException;
import java.nio.file.Files;
import java.nio.file.Path;
import java.util.Map;
import java.util.Set;
import java.util.TreeMap;
import java.util.TreeSet;

/**
 * What the tests of boundary cases share. Such a test begins with the sentence of the document that it holds to
 * (its words are looked up in DOC.md, so that they can be found there), then tells a situation, and calls in it.
 * No test uses an object for more than 512 calls.
 */
abstract class Bounds extends Check {
    static final int MOST_THINGS = 60, MOST_MEMBERS = 24, MOST_HANDLES = 60, MOST_ARGS = 6, MOST_MADE = 8000, MOST_FAILURES = 4000;
    static final int LOWEST = Integer.MIN_VALUE, HIGHEST = Integer.MAX_VALUE;

    /** Makes an object and brings it into the situation that a test is about; always by the same calls. */
    interface Start {
        HandleMirror make();
    }

    interface Call {
        long on(HandleMirror x);
    }

    interface NumberedCall {
        long on(HandleMirror x, int number);
    }

    private static final Map<String, String> SECTIONS = sections();
    private static final Set<String> NAMED = new TreeSet<>();
    private static String label = "";
    private static Start situation = HandleMirror::new;

    private static Map<String, String> sections() {
        Map<String, String> sections = new TreeMap<>();
        try {
            for (String part : Files.readString(Path.of("../shared/DOC.md")).split("(?m)^## ")) {
                String name = part.split("[:\n]")[0];
                sections.put(name, part.replaceAll("\\s+", " "));
            }
        } catch (IOException e) {
            throw new UncheckedIOException(e);
        }
        return sections;
    }

    /** Begins a test: these words stand in this section of the document. */
    static void sentence(String section, String words) {
        label = section + ", \"" + words + "\"";
        Check.due(label + " stands in the document", SECTIONS.getOrDefault(section, "").contains(words) ? 1 : 0, 1);
        NAMED.add(section);
        situation = HandleMirror::new;
    }

    static void promise(int number, String words) {
        sentence("Promise " + number, words);
    }

    /** Ends a file of tests: it had a sentence of each of these promises. */
    static void end(String name, int firstPromise, int lastPromise) {
        for (int i = firstPromise; i <= lastPromise; i++) {
            Check.due("a sentence of promise " + i, NAMED.contains("Promise " + i) ? 1 : 0, 1);
        }
        Check.end(name);
    }

    static void due(String what, long got, long want) {
        Check.due(label + ": " + what, got, want);
    }

    static void given(Start start) {
        situation = start;
    }

    /** A call in the situation at hand that is not refused, or whose refusal is looked at elsewhere. */
    static void answers(String what, long want, Call call) {
        due(what, call.on(situation.make()), want);
    }

    /** A call in the situation at hand that is refused: all calls tell then what they tell without it. */
    static void refused(String what, long want, Call call) {
        HandleMirror x = situation.make();
        due(what, call.on(x), want);
        due(what + " changes nothing", asked(x).equals(asked(situation.make())) ? 1 : 0, 1);
    }

    /** A refusal or an answer, by whether the call is inside the bound. */
    static void bounded(String what, boolean inside, long answer, long refusal, Call call) {
        if (inside) answers(what, answer, call);
        else refused(what, refusal, call);
    }

    /** A call in the situation at hand with numbers that no handle has. */
    static void unknown(String what, NumberedCall call) {
        int next = situation.make().count(2);
        int[] numbers = {LOWEST, -2, -1, next, next + 1, MOST_HANDLES, HIGHEST};
        for (int h : numbers) refused(what + " " + h, UNKNOWN, x -> call.on(x, h));
    }

    /** All that an object can be asked; what is asked by calls that change something comes last. */
    static String asked(HandleMirror x) {
        StringBuilder text = new StringBuilder();
        for (int what = 0; what <= 4; what++) add(text, x.count(what));
        for (int failure = 1; failure <= 10; failure++) add(text, x.count(10 + failure));
        for (int what = 0; what <= 3; what++) add(text, x.last(what));
        for (int what = 0; what <= 2; what++) add(text, x.result(what));
        int handles = x.count(2);
        for (int h = 0; h < handles; h++) add(text, x.shape(h));
        askThings(x, text);
        add(text, x.keep());
        for (int h = 0; h < handles; h++) add(text, x.target(h, h));
        for (int c = 0; c < 5; c++) add(text, x.nest(c, 0));
        askArgs(x, text);
        return text.toString();
    }

    private static void add(StringBuilder text, long answer) {
        text.append(answer).append(' ');
    }

    private static void askThings(HandleMirror x, StringBuilder text) {
        int members = x.count(1);
        int things = x.count(0);
        for (int thing = 0; thing < things; thing++) {
            int kind = (int) x.told(thing, 0, 0);
            long size = x.told(thing, 1, 0);
            add(text, kind);
            add(text, size);
            for (int i = 0; isRow(kind) && i < size; i++) add(text, x.told(thing, 2, i));
            for (int m = 0; kind >= BASE && kind <= FAR && m < members; m++) add(text, x.told(thing, 3, m));
        }
        for (int m = 0; m < members; m++) add(text, x.told(NONE, 3, m));
    }

    private static void askArgs(HandleMirror x, StringBuilder text) {
        int args = x.count(3);
        for (int i = 0; i < args; i++) {
            int h = x.constant();
            long shape = x.shape(h);
            add(text, shape);
            if (shape > 0) {
                add(text, x.run(h, true, (int) shape - 1));
                add(text, x.result(1));
                add(text, x.result(2));
                add(text, x.keep());
            }
        }
        add(text, x.forget());
    }

    // ---- situations

    /** So many parameters of one kind. */
    static int[] of(int kind, int size) {
        int[] kinds = new int[size];
        for (int i = 0; i < size; i++) kinds[i] = kind;
        return kinds;
    }

    /** A handle of so many ints that brings one of them. */
    static int picking(HandleMirror x, int size, int of) {
        return x.permute(x.same(INT), of, shape(INT, of(INT, size)));
    }

    /** Objects of BASE, so many. */
    static HandleMirror things(int n) {
        HandleMirror x = new HandleMirror();
        for (int i = 0; i < n; i++) x.object(0, i);
        return x;
    }

    static HandleMirror withArgs(HandleMirror x, int n) {
        for (int i = 0; i < n; i++) x.arg(INT, i);
        return x;
    }

    /** So many handles in all: those that are there, and more of (INT) INT. */
    static HandleMirror handles(HandleMirror x, int n) {
        while (x.count(2) < n) x.same(INT);
        return x;
    }

    /** So many methods in all, of the last names and of class 4. */
    static HandleMirror members(HandleMirror x, int n) {
        for (int i = x.count(1); i < n; i++) x.method(4, 15 - i % 8, 0, 0, shape(DOUBLE, DOUBLE, BYTE + i / 8));
        return x;
    }

    /** A static method of class 0 that does an act, and the handle on it. */
    static int acting(HandleMirror x, int act, long shape) {
        int name = x.count(1) % 16;
        x.method(0, name, STATIC, act, shape);
        return x.find(1, 0, name, shape, 0);
    }

    static int summing(HandleMirror x, long shape) {
        return acting(x, 0, shape);
    }

    static HandleMirror ints(HandleMirror x, long... values) {
        for (long value : values) x.arg(INT, value);
        return x;
    }

    /** Makes so many boxes by runs, some 190 in each as long as there are many to make. */
    static HandleMirror made(HandleMirror x, int n) {
        int bare = summing(x, shape(NOTHING));
        int six = x.as(x.permute(bare, 0, shape(NOTHING, 9, 9, 9, 9, 9, 9)), shape(NOTHING, 4, 4, 4, 4, 4, 4));
        ints(x, 1);
        int unit = x.bind(x.permute(six, 0, shape(NOTHING, INT)), 0);
        int many = unit;
        for (int i = 0; i < 5; i++) many = x.after(many, many);
        int one = x.same(THING);
        for (int i = 0; i < n / 192; i++) x.run(many, true, NOTHING);
        for (int i = 0; i < n % 192 / 6; i++) x.run(unit, true, NOTHING);
        for (int i = 0; i < n % 6; i++) ints(x, 1).run(one, false, THING);
        return x;
    }

    /** Has so many failures come, by caught ones as long as there are many to come, then by others. */
    static HandleMirror failures(HandleMirror x, int n) {
        int raise = acting(x, 4, shape(NOTHING));
        int many = x.caught(raise, 7, summing(x, shape(NOTHING, INT)));
        for (int i = 0; i < 5; i++) many = x.after(many, many);
        for (int i = 0; i < n / 32; i++) x.run(many, true, NOTHING);
        for (int i = 0; i < n % 32; i++) x.run(raise, true, NOTHING);
        return x;
    }

    /** A handle of (INT) INT that takes so many steps: after() takes twice as many and one, a site one more. */
    static int stepping(HandleMirror x, int steps) {
        if (steps == 1) return x.same(INT);
        if (steps % 2 == 0) return x.site(stepping(x, steps - 1));
        int half = stepping(x, (steps - 1) / 2);
        return x.after(half, half);
    }

    /** What a run answered, and what came of it. */
    static void brings(String what, HandleMirror x, long answer, int kind, long bits) {
        due(what, answer, 1);
        due(what + ", the kind", x.result(1), kind);
        due(what + ", the bits", x.result(2), bits);
    }

    static void takes(String what, HandleMirror x, int steps, int failures, int caught, int ended) {
        due(what + ", steps", x.last(0), steps);
        due(what + ", failures", x.last(1), failures);
        due(what + ", caught", x.last(2), caught);
        due(what + ", ended by", x.last(3), ended);
    }
}
