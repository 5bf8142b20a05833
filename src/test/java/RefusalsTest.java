/**
 * The term EXCEPTIONS: each exception that a promise names is thrown just where the document says so,
 * the one that is named first ahead of the other, and no later call shows that the call was made.
 */
final class RefusalsTest {
    private static final Check C = new Check("RefusalsTest");
    private static final Class<?> ARGUMENT = IllegalArgumentException.class;
    private static final Class<?> INDEX = IndexOutOfBoundsException.class;
    private static final Class<?> STATE = IllegalStateException.class;
    private static final int LEAST = Integer.MIN_VALUE;
    private static final int MOST = Integer.MAX_VALUE;

    public static void main(String[] args) {
        String place = "EXCEPTIONS";
        C.sentence(place, "IndexOutOfBoundsException means that an unknown resistor does not exist, or that a save slot "
                + "is not 0 or 1.", RefusalsTest::indices);
        C.sentence(place, "IllegalArgumentException means that another argument is out of its range.",
                RefusalsTest::arguments);
        C.sentence(place, "IllegalStateException means what the method says.", RefusalsTest::states);
        C.sentence(place, "If several exceptions apply to a call, the one that its description names first is thrown.",
                RefusalsTest::namedFirst);
        C.sentence(place, "A call that throws an exception changes nothing.", RefusalsTest::manyInARow);
        C.end();
    }

    /** Nothing has been done: the text is empty, nothing is remembered or saved. */
    private static void fresh(MirrorBridge x) {
    }

    /** Everything is in use, and nothing is full. */
    private static void used(MirrorBridge x) {
        Check.write(x, "G123456783-4719x1234x0300x0001");
        x.load();
        x.pair();
        x.save(1);
        x.choose(2);
        x.press(true);
        x.pause(2);
        x.append('x');
    }

    /** The galvanometer sticks; the text, the unknown resistors, the ledger, the remembered states, the slots are full. */
    private static void full(MirrorBridge x) {
        Check.write(x, "G221000103+0104x1500x0300x0001x0002x0003x0004");
        x.load();
        for (int i = 0; i < 15; i++) {
            x.append('x');
        }
        x.save(0);
        for (int i = 0; i < 25; i++) {
            x.press(i % 3 == 0);
        }
        x.save(1);
        x.choose(5);
        x.set(4, 0);
        x.press(true);
    }

    private static void everywhere(String call, Class<?> due, Scene.Call made) {
        C.refusedAfter(call + " of a new object", due, RefusalsTest::fresh, made);
        C.refusedAfter(call + " of a bridge in use", due, RefusalsTest::used, made);
        C.refusedAfter(call + " of a full bridge", due, RefusalsTest::full, made);
    }

    private static void answers(String call, Scene.Calls run, Scene.Call made, int due) {
        C.same(call, Check.answer(() -> made.on(Scene.after(run))), String.valueOf(due));
    }

    private static void indices() {
        for (int i : new int[] {-1, 6, 7, LEAST, MOST}) {
            everywhere("choose(" + i + ")", INDEX, x -> x.choose(i));
            everywhere("bestR(" + i + ")", INDEX, x -> x.bestR(i));
            everywhere("bestArms(" + i + ")", INDEX, x -> x.bestArms(i));
        }
        int[] unknowns = {1, 3, 6};
        Scene.Calls[] runs = {RefusalsTest::fresh, RefusalsTest::used, RefusalsTest::full};
        int[] chosen = {0, 2, 5};
        int[] ohms = {1500, 1, 4};
        for (int k = 0; k < 3; k++) {
            int last = unknowns[k] - 1;
            int none = unknowns[k];
            answers("choose(" + last + ")", runs[k], x -> x.choose(last), chosen[k]);
            C.refusedAfter("choose(" + none + ")", INDEX, runs[k], x -> x.choose(none));
            answers("bestR(" + last + ")", runs[k], x -> x.bestR(last), k == 1 ? 10 : ohms[k]);
            C.refusedAfter("bestR(" + none + ")", INDEX, runs[k], x -> x.bestR(none));
            answers("bestArms(" + last + ")", runs[k], x -> x.bestArms(last), k == 0 ? 0 : 3);
            C.refusedAfter("bestArms(" + none + ")", INDEX, runs[k], x -> x.bestArms(none));
        }
        for (int slot : new int[] {-1, 2, 3, LEAST, MOST}) {
            everywhere("save(" + slot + ")", INDEX, x -> x.save(slot));
            everywhere("restore(" + slot + ")", INDEX, x -> x.restore(slot));
        }
        answers("save(0)", RefusalsTest::full, x -> x.save(0), 26);
        answers("save(1)", RefusalsTest::full, x -> x.save(1), 26);
        answers("restore(0)", RefusalsTest::full, x -> x.restore(0), 0);
        answers("restore(1)", RefusalsTest::full, x -> x.restore(1), 25);
    }

    private static void arguments() {
        for (int v : new int[] {-1, 256, LEAST, MOST}) {
            everywhere("append(" + v + ")", ARGUMENT, x -> x.append(v));
        }
        for (int v : new int[] {-1, 16, LEAST, MOST}) {
            everywhere("about(" + v + ")", ARGUMENT, x -> x.about(v));
        }
        for (int v : new int[] {-1, 5, LEAST, MOST}) {
            everywhere("bridge(" + v + ")", ARGUMENT, x -> x.bridge(v));
        }
        for (int v : new int[] {-1, LEAST}) {
            everywhere("told(" + v + ", 0)", ARGUMENT, x -> x.told(v, 0));
        }
        for (int v : new int[] {-1, 4, LEAST, MOST}) {
            everywhere("told(0, " + v + ")", ARGUMENT, x -> x.told(0, v));
            everywhere("told(MAX, " + v + ")", ARGUMENT, x -> x.told(MOST, v));
        }
        for (int v : new int[] {0, 201, -1, LEAST, MOST}) {
            everywhere("pause(" + v + ")", ARGUMENT, x -> x.pause(v));
        }
        for (int v : new int[] {0, 10000, -1, LEAST, MOST}) {
            everywhere("add(" + v + ")", ARGUMENT, x -> x.add(v));
        }
        for (int v : new int[] {-1, 3, LEAST, MOST}) {
            everywhere("value(" + v + ")", ARGUMENT, x -> x.value(v));
        }
        for (int v : new int[] {-51, 301, LEAST, MOST}) {
            everywhere("waitFor(" + v + ")", ARGUMENT, x -> x.waitFor(v));
        }
        for (int v : new int[] {-1, 4, LEAST, MOST}) {
            everywhere("balanced(" + v + ")", ARGUMENT, x -> x.balanced(v));
        }
        for (int v : new int[] {0, 100, -1, LEAST, MOST}) {
            everywhere("simulate(1, " + v + ")", ARGUMENT, x -> x.simulate(1, v));
        }
        argumentsOfSet();
        argumentsOfTwo();
    }

    private static void argumentsOfSet() {
        int[][] ranges = {{0, 3}, {0, 3}, {0, 9999}, {1, 99}, {0, 3}, {-50, 50}, {0, 20}};
        for (int what = 0; what <= 6; what++) {
            int w = what;
            for (int v : new int[] {ranges[w][0] - 1, ranges[w][1] + 1, LEAST, MOST}) {
                everywhere("set(" + w + ", " + v + ")", ARGUMENT, x -> x.set(w, v));
            }
        }
        for (int what : new int[] {-1, 7, LEAST, MOST}) {
            everywhere("set(" + what + ", 1)", ARGUMENT, x -> x.set(what, 1));
        }
    }

    private static void argumentsOfTwo() {
        int[][] forecasts = {{-1, 0}, {100, 0}, {0, -1}, {0, 201}, {LEAST, LEAST}, {MOST, MOST}};
        for (int[] f : forecasts) {
            everywhere("offsetAfter(" + f[0] + ", " + f[1] + ")", ARGUMENT, x -> x.offsetAfter(f[0], f[1]));
        }
        long[][] scripts = {{0, 0}, {4, 0}, {LEAST, 0}, {MOST, 0}, {1, -1}, {1, 100000}, {2, 10000000000L},
            {3, 1000000000000000L}, {3, Long.MIN_VALUE}, {3, Long.MAX_VALUE}, {0, -1}};
        for (long[] s : scripts) {
            everywhere("runScript(" + s[0] + ", " + s[1] + ")", ARGUMENT, x -> x.runScript((int) s[0], s[1]));
        }
    }

    private static void states() {
        Scene.Calls full = RefusalsTest::full;
        Scene.Calls used = RefusalsTest::used;
        C.refusedAfter("append('G') to a full text", STATE, full, x -> x.append('G'));
        answers("append('G')", used, x -> x.append('G'), 32);
        C.refusedAfter("load() of no text", STATE, RefusalsTest::fresh, MirrorBridge::load);
        C.refusedAfter("load() of a text with one x too much", STATE, used, MirrorBridge::load);
        C.refusedAfter("load() of a full text", STATE, full, MirrorBridge::load);
        C.refusedAfter("press(false)", STATE, full, x -> x.press(false));
        C.refusedAfter("press(true)", STATE, full, x -> x.press(true));
        C.refusedAfter("pair()", STATE, full, MirrorBridge::pair);
        C.refusedAfter("balance()", STATE, full, MirrorBridge::balance);
        Scene.Calls freed = Scene.then(full, x -> {
            x.free();
            x.set(4, 3);
        });
        C.due("press(false) when freed", Scene.after(freed).about(14) + 1,
                Scene.after(Scene.then(freed, x -> x.press(false))).about(14));
        C.due("pair() when freed", Scene.after(freed).about(14) + 2,
                Scene.after(Scene.then(freed, MirrorBridge::pair)).about(14));
        answers("balance() when freed", freed, x -> x.balance() - x.about(2), 0);
        C.refusedAfter("add(1)", STATE, full, x -> x.add(1));
        C.refusedAfter("add(9999)", STATE, full, x -> x.add(9999));
        answers("add(9999)", used, x -> x.add(9999), 3);
        C.refusedAfter("undo()", STATE, RefusalsTest::fresh, MirrorBridge::undo);
        answers("undo()", full, MirrorBridge::undo, 13);
        C.refusedAfter("restore(0)", STATE, RefusalsTest::fresh, x -> x.restore(0));
        C.refusedAfter("restore(0)", STATE, used, x -> x.restore(0));
        answers("restore(1)", used, x -> x.restore(1), 2);
        C.refusedAfter("undo() after restore()", STATE, Scene.then(full, x -> x.restore(1)), MirrorBridge::undo);
    }

    private static void namedFirst() {
        // append names IllegalArgumentException ahead of IllegalStateException
        C.refusedAfter("append('G')", STATE, RefusalsTest::full, x -> x.append('G'));
        C.refusedAfter("append(-1)", ARGUMENT, RefusalsTest::full, x -> x.append(-1));
        C.refusedAfter("append(256)", ARGUMENT, RefusalsTest::full, x -> x.append(256));
        // so does add
        C.refusedAfter("add(1)", STATE, RefusalsTest::full, x -> x.add(1));
        C.refusedAfter("add(0)", ARGUMENT, RefusalsTest::full, x -> x.add(0));
        C.refusedAfter("add(10000)", ARGUMENT, RefusalsTest::full, x -> x.add(10000));
        // restore names IndexOutOfBoundsException ahead of IllegalStateException
        C.refusedAfter("restore(1)", STATE, RefusalsTest::fresh, x -> x.restore(1));
        C.refusedAfter("restore(-1)", INDEX, RefusalsTest::fresh, x -> x.restore(-1));
        C.refusedAfter("restore(2)", INDEX, RefusalsTest::fresh, x -> x.restore(2));
    }

    private static void manyInARow() {
        Scene.Call refused = x -> {
            for (int i = 0; i < 3; i++) {
                Check.answer(() -> x.append(256));
                Check.answer(x::load);
                Check.answer(() -> x.press(true));
                Check.answer(x::pair);
                Check.answer(() -> x.pause(0));
                Check.answer(() -> x.set(2, 10000));
                Check.answer(() -> x.choose(6));
                Check.answer(() -> x.add(0));
                Check.answer(() -> x.add(1));
                Check.answer(x::balance);
                Check.answer(() -> x.runScript(1, -1));
                Check.answer(() -> x.simulate(0, 0));
                Check.answer(() -> x.save(2));
                Check.answer(() -> x.restore(2));
                Check.answer(() -> x.append('G'));
            }
            return 0;
        };
        C.unchanged("calls that all throw", RefusalsTest::full, refused);
    }
}
