/**
 * The boundaries of the term ACTIONS AND UNDO, of promises 17, 28 and 29 and of the 512 calls that an
 * object is good for: a test for each sentence, on both sides of its boundary.
 */
final class UndoEdgesTest {
    private static final Check C = new Check("UndoEdgesTest");
    private static final Class<?> STATE = IllegalStateException.class;
    private static final Class<?> INDEX = IndexOutOfBoundsException.class;
    private static final String USUAL = "G221000103+0104x1500x0300";

    public static void main(String[] args) {
        actions();
        remembered();
        slots();
        C.sentence("What it is", "An object is used for at most 512 calls after it has been made",
                UndoEdgesTest::lastCall);
        C.end();
    }

    private static void actions() {
        String place = "ACTIONS AND UNDO";
        C.sentence(place, "the state, which consists of everything but the text and the save slots",
                UndoEdgesTest::everythingBut);
        C.sentence(place, "Each call of one of them that does not throw an exception is an action",
                UndoEdgesTest::eachOfThem);
        C.sentence(place, "also if nothing becomes different", UndoEdgesTest::nothingDifferent);
        C.sentence(place, "(undo is none)", UndoEdgesTest::undoIsNone);
        C.sentence(place, "that does not throw an exception", UndoEdgesTest::thrownIsNone);
        C.sentence(place, "load and restore are not actions.", UndoEdgesTest::loadAndRestore);
        C.sentence("the face", "these and all following methods up to the save slots change nothing",
                UndoEdgesTest::valuesAreNone);
    }

    private static void remembered() {
        String place = "ACTIONS AND UNDO";
        C.sentence(place, "Before each action, the state is remembered.", UndoEdgesTest::beforeEach);
        C.sentence(place, "At most 14 states are remembered", UndoEdgesTest::fourteen);
        C.sentence(place, "when one more is remembered, the oldest one is forgotten", UndoEdgesTest::oldestForgotten);
        C.sentence("Promise 17", "Takes back the last action that is remembered.", UndoEdgesTest::lastAction);
        C.sentence("Promise 17", "Returns how many states are still remembered.", UndoEdgesTest::howMany);
        C.sentence("Promise 17", "if none is remembered", UndoEdgesTest::noneRemembered);
    }

    private static void slots() {
        C.sentence("Promise 28", "Stores the present state in a save slot.", UndoEdgesTest::stores);
        C.sentence("Promise 28", "slot`: 0 or 1", UndoEdgesTest::bothSlots);
        C.sentence("Promise 28", "Returns the clock.", UndoEdgesTest::savedClock);
        C.sentence("Promise 28", "if there is no such save slot", UndoEdgesTest::noSlotToSave);
        C.sentence("Promise 29", "Replaces the state by the one in a save slot", UndoEdgesTest::replaces);
        C.sentence("Promise 29", "and forgets all remembered states", UndoEdgesTest::forgetsAll);
        C.sentence("Promise 29", "The save slot keeps it.", UndoEdgesTest::keeps);
        C.sentence("Promise 29", "Returns the clock then.", UndoEdgesTest::restoredClock);
        C.sentence("Promise 29", "if there is no such save slot", UndoEdgesTest::noSlotToRestore);
        C.sentence("Promise 29", "if nothing has been saved in it since the last load", UndoEdgesTest::nothingSaved);
    }

    /** A bridge with a text, a full ledger and a warm battery; nothing is remembered or saved. */
    private static void used(MirrorBridge x) {
        Check.write(x, USUAL);
        x.load();
        for (int i = 0; i < 23; i++) {
            x.press(i % 3 == 0);
        }
        x.save(0);
        x.restore(0);
    }

    private static void stuck(MirrorBridge x) {
        used(x);
        x.set(4, 0);
        x.press(true);
        x.save(1);
        x.restore(1);
    }

    private static Scene.Calls after(Scene.Calls run, Scene.Call... calls) {
        return Scene.then(run, x -> {
            for (Scene.Call call : calls) {
                call.on(x);
            }
        });
    }

    // ---- actions

    private static void takenBack(String call, Scene.Calls run, Scene.Call action) {
        String ahead = Scene.state(run);
        C.due("whether " + call + " changes something", ahead.equals(Scene.state(after(run, action))) ? 0 : 1, 1);
        C.same("what is left after undo() of " + call, Scene.shown(after(run, action, MirrorBridge::undo)),
                Scene.shown(run));
    }

    private static void everythingBut() {
        takenBack("press", UndoEdgesTest::used, x -> x.press(true));
        takenBack("a press that overloads", after(UndoEdgesTest::used, x -> x.set(4, 0)), x -> x.press(true));
        takenBack("pair", UndoEdgesTest::used, MirrorBridge::pair);
        takenBack("pause", UndoEdgesTest::used, x -> x.pause(1));
        int[] others = {0, 1, 2000, 20, 1, -1, 0};
        for (int what = 0; what <= 6; what++) {
            int w = what;
            takenBack("set(" + w + ")", UndoEdgesTest::used, x -> x.set(w, others[w]));
        }
        takenBack("choose", UndoEdgesTest::used, x -> x.choose(1));
        takenBack("add", UndoEdgesTest::used, x -> x.add(4000));
        takenBack("free", UndoEdgesTest::used, MirrorBridge::free);
        takenBack("free when it sticks", UndoEdgesTest::stuck, MirrorBridge::free);
        takenBack("balance", UndoEdgesTest::used, MirrorBridge::balance);
        // the text and the slots stay as they are
        Scene.Calls run = after(UndoEdgesTest::used, x -> x.pause(3), MirrorBridge::clearText, x -> x.append('G'),
                x -> x.save(1));
        MirrorBridge x = Scene.after(run);
        x.undo();
        C.due("clock after undo()", x.about(9), 23);
        C.due("errorPosition() after undo()", x.errorPosition(), 1);
        C.due("restore(1) after undo()", x.restore(1), 26);
    }

    /** The call must make the remembered states more by one; 3 are there ahead of it. */
    private static void remembers(String call, Scene.Calls run, Scene.Call action) {
        Scene.Calls three = after(run, x -> x.set(0, 2), x -> x.set(0, 2), x -> x.set(0, 2));
        C.due("undo() ahead of " + call, Scene.after(three).undo(), 2);
        C.due("undo() after " + call, Scene.after(after(three, action)).undo(), 3);
    }

    private static void eachOfThem() {
        remembers("press(false)", UndoEdgesTest::used, x -> x.press(false));
        remembers("press(true)", UndoEdgesTest::used, x -> x.press(true));
        remembers("pair", UndoEdgesTest::used, MirrorBridge::pair);
        remembers("pause", UndoEdgesTest::used, x -> x.pause(200));
        for (int what = 0; what <= 6; what++) {
            int w = what;
            remembers("set(" + w + ")", UndoEdgesTest::used, x -> x.set(w, 1));
        }
        remembers("choose", UndoEdgesTest::used, x -> x.choose(1));
        remembers("add", UndoEdgesTest::used, x -> x.add(1));
        remembers("free", UndoEdgesTest::used, MirrorBridge::free);
        remembers("free when it sticks", UndoEdgesTest::stuck, MirrorBridge::free);
        remembers("balance", UndoEdgesTest::used, MirrorBridge::balance);
    }

    private static void nothingDifferent() {
        for (int what = 0; what <= 6; what++) {
            int w = what;
            remembers("set(" + w + ") to the same", UndoEdgesTest::used, x -> x.set(w, x.about(w)));
        }
        remembers("choose(0)", UndoEdgesTest::used, x -> x.choose(0));
        remembers("choose(0) when it sticks", UndoEdgesTest::stuck, x -> x.choose(0));
    }

    private static void undoIsNone() {
        MirrorBridge x = new MirrorBridge();
        x.pause(1);
        x.pause(2);
        x.pause(3);
        int[] clocks = {3, 1, 0};
        for (int left = 2; left >= 0; left--) {
            C.due("undo()", x.undo(), left);
            C.due("clock", x.about(9), clocks[2 - left]);
        }
        C.refused(x, "undo()", STATE, x::undo);
    }

    private static void thrownIsNone() {
        Scene.Calls free = after(UndoEdgesTest::used, x -> x.pause(1));
        C.refusedAfter("pause(0)", IllegalArgumentException.class, free, x -> x.pause(0));
        C.refusedAfter("set(3, 0)", IllegalArgumentException.class, free, x -> x.set(3, 0));
        C.refusedAfter("choose(2)", INDEX, free, x -> x.choose(2));
        C.refusedAfter("add(0)", IllegalArgumentException.class, free, x -> x.add(0));
        Scene.Calls sticking = after(UndoEdgesTest::stuck, x -> x.pause(1));
        C.refusedAfter("press()", STATE, sticking, x -> x.press(true));
        C.refusedAfter("pair()", STATE, sticking, MirrorBridge::pair);
        C.refusedAfter("balance()", STATE, sticking, MirrorBridge::balance);
        // with 14 states remembered, a refused call does not push the oldest one out
        Scene.Calls full = after(sticking, pauses(0, 13));
        C.refusedAfter("press() with 14 states", STATE, full, x -> x.press(false));
        C.due("undo() with 14 states and a refused call",
                Scene.after(after(full, x -> Check.answer(x::pair).length())).undo(), 13);
    }

    /** Actions that leave a clock of its own behind each of them. */
    private static Scene.Call[] pauses(int from, int n) {
        Scene.Call[] calls = new Scene.Call[n];
        for (int i = 0; i < n; i++) {
            int m = 1 + (from + i) % 4;
            calls[i] = x -> x.pause(m);
        }
        return calls;
    }

    private static void loadAndRestore() {
        Scene.Calls run = after(UndoEdgesTest::used, x -> x.pause(1));
        C.refusedAfter("undo() of load()", STATE, after(run, MirrorBridge::load), MirrorBridge::undo);
        C.refusedAfter("undo() of restore()", STATE, after(run, x -> x.restore(0)), MirrorBridge::undo);
        MirrorBridge x = Scene.after(after(run, y -> y.restore(0), y -> y.pause(1)));
        C.due("undo() of an action after restore()", x.undo(), 0);
        C.refused(x, "undo() of restore()", STATE, x::undo);
    }

    private static void valuesAreNone() {
        for (Scene.Calls run : new Scene.Calls[] {y -> { }, after(UndoEdgesTest::used, y -> y.pause(1)),
            after(UndoEdgesTest::stuck, y -> y.pause(1))}) {
            for (int what = 0; what <= 3; what++) {
                int w = what;
                C.unchanged("balanced(" + w + ")", run, x -> x.balanced(w));
                C.unchanged("value(" + w + ")", run, x -> x.value(w));
            }
            C.unchanged("bestR(0)", run, x -> x.bestR(0));
            C.unchanged("bestArms(0)", run, x -> x.bestArms(0));
            C.unchanged("enoughShunt()", run, MirrorBridge::enoughShunt);
            C.unchanged("sensitivity()", run, MirrorBridge::sensitivity);
            C.unchanged("offsetAfter(99, 200)", run, x -> x.offsetAfter(99, 200));
            C.unchanged("waitFor(-50)", run, x -> x.waitFor(-50));
            C.unchanged("waitFor(300)", run, x -> x.waitFor(300));
            C.unchanged("runScript(3, 31111 10020 60000)", run, x -> x.runScript(3, 311111002060000L));
            C.unchanged("runScript(3, 44000 51000 20200)", run, x -> x.runScript(3, 440005100020200L));
            C.unchanged("simulate(1, 99)", run, x -> x.simulate(1, 99));
            C.unchanged("about(8)", run, x -> x.about(8));
            C.unchanged("told(0, 0)", run, x -> x.told(0, 0));
            C.unchanged("bridge(4)", run, x -> x.bridge(4));
            C.unchanged("errorPosition()", run, MirrorBridge::errorPosition);
        }
    }

    // ---- remembered states

    private static void beforeEach() {
        // pair, free and balance make many steps, and are taken back in one
        Scene.Calls run = UndoEdgesTest::used;
        for (Scene.Call call : new Scene.Call[] {MirrorBridge::pair, MirrorBridge::free, MirrorBridge::balance}) {
            MirrorBridge x = Scene.after(after(run, call));
            C.due("undo()", x.undo(), 0);
            C.same("what is seen", Check.seen(x), Check.seen(Scene.after(run)));
        }
    }

    private static void fourteen() {
        for (int n : new int[] {1, 2, 13, 14, 15, 16, 27, 28, 29, 42, 43}) {
            MirrorBridge x = Scene.after(after(y -> { }, pauses(0, n)));
            for (int left = Math.min(14, n) - 1; left >= 0; left--) {
                C.due("undo() of " + n, x.undo(), left);
            }
            C.refused(x, "one more undo() of " + n, STATE, x::undo);
        }
    }

    private static void oldestForgotten() {
        for (int n : new int[] {13, 14, 15, 16, 28, 29, 30}) {
            int kept = Math.min(14, n);
            for (int back = 1; back <= kept; back++) {
                MirrorBridge x = Scene.after(after(UndoEdgesTest::used, pauses(0, n)));
                for (int i = 0; i < back; i++) {
                    x.undo();
                }
                C.same("what is seen after " + n + " actions and " + back + " undo()", Check.seen(x),
                        Check.seen(Scene.after(after(UndoEdgesTest::used, pauses(0, n - back)))));
            }
        }
        // some are taken back, and others come in their place
        Scene.Calls run = after(after(UndoEdgesTest::used, pauses(0, 15)), MirrorBridge::undo, MirrorBridge::undo,
                MirrorBridge::undo);
        C.due("undo() of 11", Scene.after(run).undo(), 10);
        MirrorBridge x = Scene.after(after(run, pauses(2, 4)));
        C.due("undo() of 14", x.undo(), 13);
        for (int left = 12; left >= 0; left--) {
            C.due("undo()", x.undo(), left);
        }
        // 11 and 4 are one more than 14: the state ahead of the second action is forgotten too
        C.due("clock of the third state", x.about(9), 23 + 1 + 2);
        C.refused(x, "undo() of the second state", STATE, x::undo);
    }

    private static void lastAction() {
        MirrorBridge x = new MirrorBridge();
        x.set(2, 1);
        x.set(2, 2);
        x.undo();
        C.due("R", x.about(2), 1);
        x.set(2, 3);
        x.undo();
        C.due("R", x.about(2), 1);
        x.undo();
        C.due("R", x.about(2), 1000);
    }

    private static void howMany() {
        for (int n : new int[] {1, 2, 13, 14}) {
            C.due("undo() of " + n, Scene.after(after(y -> { }, pauses(0, n))).undo(), n - 1);
        }
        C.due("undo() of 15", Scene.after(after(y -> { }, pauses(0, 15))).undo(), 13);
        C.due("undo() of 100", Scene.after(after(y -> { }, pauses(0, 100))).undo(), 13);
    }

    private static void noneRemembered() {
        C.refusedAfter("undo() of a new object", STATE, y -> { }, MirrorBridge::undo);
        C.refusedAfter("undo() with nothing remembered", STATE, UndoEdgesTest::used, MirrorBridge::undo);
        C.refusedAfter("undo() of one action, twice", STATE,
                after(UndoEdgesTest::used, x -> x.pause(1), MirrorBridge::undo), MirrorBridge::undo);
        C.due("undo() of one action", Scene.after(after(UndoEdgesTest::used, x -> x.pause(1))).undo(), 0);
    }

    // ---- save slots

    private static void stores() {
        Scene.Calls run = after(UndoEdgesTest::stuck, x -> x.choose(1));
        Scene.Calls other = after(after(run, x -> x.save(0)), x -> x.free(), x -> x.set(0, 3), x -> x.set(1, 1),
                x -> x.set(2, 7), x -> x.set(3, 8), x -> x.set(4, 3), x -> x.set(5, 9), x -> x.set(6, 10), x -> x.add(5),
                x -> x.choose(2), MirrorBridge::pair, x -> x.restore(0));
        C.same("the state that was stored", Scene.state(other), Scene.state(run));
        // saving changes nothing but the slot
        C.same("the state behind save()", Scene.state(after(run, x -> x.save(0))), Scene.state(run));
        C.same("the remembered states behind save()", Scene.past(after(run, x -> x.save(0))), Scene.past(run));
        // a later save() takes the place of the former one
        MirrorBridge x = Scene.after(after(run, y -> y.save(0), y -> y.pause(1), y -> y.save(0), y -> y.pause(1)));
        C.due("restore(0) of the later one", x.restore(0), 25);
    }

    private static void bothSlots() {
        MirrorBridge x = new MirrorBridge();
        x.pause(1);
        C.due("save(0)", x.save(0), 1);
        x.pause(2);
        C.due("save(1)", x.save(1), 3);
        x.pause(3);
        C.due("restore(0)", x.restore(0), 1);
        C.due("restore(1)", x.restore(1), 3);
        C.due("restore(0)", x.restore(0), 1);
    }

    private static void savedClock() {
        MirrorBridge x = new MirrorBridge();
        C.due("save(0) of a new object", x.save(0), 0);
        x.press(false);
        C.due("save(0) after a press", x.save(0), 1);
        x.pause(200);
        C.due("save(1) after waiting", x.save(1), 201);
    }

    private static void noSlotToSave() {
        for (int slot : new int[] {-1, 2, Integer.MIN_VALUE, Integer.MAX_VALUE}) {
            C.refusedAfter("save(" + slot + ") of a new object", INDEX, y -> { }, x -> x.save(slot));
            C.refusedAfter("save(" + slot + ")", INDEX, after(UndoEdgesTest::stuck, x -> x.pause(1)),
                    x -> x.save(slot));
        }
    }

    private static void replaces() {
        Scene.Calls run = UndoEdgesTest::used;
        for (Scene.Call call : new Scene.Call[] {x -> x.press(false), MirrorBridge::pair, x -> x.pause(9),
            x -> x.set(2, 5), x -> x.choose(1), x -> x.add(9), MirrorBridge::free, MirrorBridge::balance}) {
            C.same("the state behind restore()", Scene.state(after(run, x -> x.save(1), call, x -> x.restore(1))),
                    Scene.state(run));
        }
        // the text is no part of the state
        MirrorBridge x = Scene.after(after(run, MirrorBridge::clearText, y -> y.append('G'), y -> y.restore(0)));
        C.due("length of the text", x.clearText(), 1);
        // an unknown resistor that came later is no more
        MirrorBridge y = Scene.after(after(run, z -> z.add(9), z -> z.choose(2), z -> z.restore(0)));
        C.refused(y, "choose(2)", INDEX, () -> y.choose(2));
    }

    private static void forgetsAll() {
        for (int n : new int[] {1, 14, 15}) {
            Scene.Calls run = after(UndoEdgesTest::used, pauses(0, n));
            C.due("undo() ahead of restore()", Scene.after(run).undo(), Math.min(14, n) - 1);
            C.refusedAfter("undo() after restore()", STATE, after(run, x -> x.restore(0)), MirrorBridge::undo);
            MirrorBridge x = Scene.after(after(run, y -> y.restore(0), y -> y.pause(1)));
            C.due("undo() of an action after restore()", x.undo(), 0);
        }
    }

    private static void keeps() {
        Scene.Calls run = after(UndoEdgesTest::used, x -> x.save(1), x -> x.pause(1), x -> x.restore(1));
        Scene.Calls again = after(run, MirrorBridge::pair, x -> x.add(1), x -> x.set(2, 0), x -> x.restore(1));
        C.same("what is left after another restore()", Scene.shown(again), Scene.shown(run));
        // nor do undo() and actions behind it touch what is in the slot
        MirrorBridge x = Scene.after(after(run, y -> y.press(false), MirrorBridge::undo, y -> y.press(true)));
        C.due("restore(1)", x.restore(1), 23);
        C.due("clock of the latest reading", x.told(0, 3), 22);
    }

    private static void restoredClock() {
        MirrorBridge x = new MirrorBridge();
        x.save(0);
        x.pause(7);
        x.save(1);
        x.pause(8);
        C.due("restore(1)", x.restore(1), 7);
        C.due("clock", x.about(9), 7);
        C.due("restore(0)", x.restore(0), 0);
        C.due("clock", x.about(9), 0);
    }

    private static void noSlotToRestore() {
        for (int slot : new int[] {-1, 2, Integer.MIN_VALUE, Integer.MAX_VALUE}) {
            // also with empty slots: this exception is named first
            C.refusedAfter("restore(" + slot + ") of a new object", INDEX, y -> { }, x -> x.restore(slot));
            C.refusedAfter("restore(" + slot + ")", INDEX, after(UndoEdgesTest::stuck, x -> x.pause(1)),
                    x -> x.restore(slot));
        }
    }

    private static void nothingSaved() {
        for (int slot = 0; slot <= 1; slot++) {
            int k = slot;
            Scene.Calls acted = y -> y.pause(1);
            C.refusedAfter("restore(" + k + ") of a new object", STATE, y -> { }, x -> x.restore(k));
            C.refusedAfter("restore(" + k + ") with an action to undo", STATE, acted, x -> x.restore(k));
            C.refusedAfter("restore(" + k + ") with the other slot full", STATE, after(acted, x -> x.save(1 - k)),
                    x -> x.restore(k));
            C.due("restore(" + k + ") with this slot full", Scene.after(after(acted, x -> x.save(k))).restore(k), 1);
            Scene.Calls loaded = after(UndoEdgesTest::stuck, x -> x.save(k), MirrorBridge::load);
            C.refusedAfter("restore(" + k + ") after load()", STATE, loaded, x -> x.restore(k));
            C.due("restore(" + k + ") after load() and save()", Scene.after(after(loaded, x -> x.save(k))).restore(k),
                    0);
            // a load() that throws empties no slot
            Scene.Calls refused = after(UndoEdgesTest::stuck, x -> x.save(k), MirrorBridge::clearText,
                    x -> Check.answer(x::load).length());
            C.due("restore(" + k + ") after a load() that throws", Scene.after(refused).restore(k), 24);
            // undo() does not empty it either
            Scene.Calls undone = after(acted, x -> x.save(k), MirrorBridge::undo);
            C.due("restore(" + k + ") after undo()", Scene.after(undone).restore(k), 1);
        }
    }

    // ---- the last call

    private static void lastCall() {
        // the 512th call of each object, behind rings that have gone round many times
        Scene.Calls run = x -> {
            for (int i = 0; i < 511; i++) {
                x.press(i % 2 == 0);
            }
        };
        C.due("about(9)", Scene.after(run).about(9), 511);
        C.due("about(14)", Scene.after(run).about(14), 511);
        C.due("about(13)", Scene.after(run).about(13), 20);
        C.due("told(19, 3)", Scene.after(run).told(19, 3), 511 - 20);
        C.due("told(0, 1)", Scene.after(run).told(0, 1), -1);
        C.due("undo()", Scene.after(run).undo(), 13);
        // 5110 * 4 / 100 = 204
        C.due("press(false)", Scene.after(run).press(false), 100 + 204);
        C.due("save(0)", Scene.after(run).save(0), 511);
        C.due("pause(200)", Scene.after(run).pause(200), 0);
        C.due("append()", Scene.after(run).append('G'), 1);
    }
}
