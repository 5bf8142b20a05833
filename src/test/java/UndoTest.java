import java.util.ArrayList;
import java.util.List;
import java.util.function.Consumer;

/** Promise 17, and what is an action and what is not. */
final class UndoTest {
    private static final Check C = new Check("UndoTest");

    public static void main(String[] args) {
        eachActionIsTakenBack();
        actionsThatChangeNothing();
        callsThatAreNoActions();
        fourteenStates();
        C.end();
    }

    private static MirrorBridge used() {
        MirrorBridge x = Check.bridge("G221000103+0104x1500x0300");
        for (int i = 0; i < 25; i++) {
            x.press(i % 2 == 0);
        }
        return x;
    }

    private static MirrorBridge stuck() {
        MirrorBridge x = used();
        x.set(4, 0);
        x.press(false);
        return x;
    }

    private static void takenBack(String call, MirrorBridge x, Consumer<MirrorBridge> action) {
        String ahead = Check.seen(x);
        action.accept(x);
        C.due("whether " + call + " changes something", ahead.equals(Check.seen(x)) ? 0 : 1, 1);
        C.due("undo() of " + call, x.undo(), 13);
        C.same("what is seen after undo() of " + call, Check.seen(x), ahead);
    }

    private static void eachActionIsTakenBack() {
        takenBack("press", used(), x -> x.press(true));
        takenBack("a press that overloads", bare(), x -> x.press(true));
        takenBack("pair", used(), MirrorBridge::pair);
        takenBack("pause", used(), x -> x.pause(7));
        int[] others = {0, 1, 2000, 20, 1, -1, 0};
        for (int what = 0; what <= 6; what++) {
            int w = what;
            takenBack("set " + w, used(), x -> x.set(w, others[w]));
        }
        takenBack("choose", used(), x -> x.choose(1));
        takenBack("add", used(), x -> x.add(4000));
        takenBack("free", used(), MirrorBridge::free);
        takenBack("free when it sticks", stuck(), MirrorBridge::free);
        takenBack("balance", used(), MirrorBridge::balance);
    }

    private static MirrorBridge bare() {
        MirrorBridge x = used();
        x.set(4, 0);
        return x;
    }

    private static void actionsThatChangeNothing() {
        MirrorBridge x = Check.bridge("G221000103+0104x1500");
        x.set(2, 1000);
        x.choose(0);
        C.due("undo() of choose(0)", x.undo(), 1);
        C.due("undo() of set(2, 1000)", x.undo(), 0);
        C.refused(x, "undo()", IllegalStateException.class, x::undo);
    }

    private static void callsThatAreNoActions() {
        MirrorBridge x = stuck();
        String ahead = Check.numbers(x);
        x.undo();
        String before = Check.numbers(x);
        x.press(false);
        C.same("the press again", Check.numbers(x), ahead);
        x.append('G');
        x.save(1);
        x.value(0);
        x.balanced(0);
        x.runScript(1, 30001);
        x.simulate(1, 9);
        x.offsetAfter(9, 9);
        x.waitFor(0);
        x.enoughShunt();
        x.sensitivity();
        C.refused(x, "press()", IllegalStateException.class, () -> x.press(false));
        C.refused(x, "pair()", IllegalStateException.class, x::pair);
        C.refused(x, "balance()", IllegalStateException.class, x::balance);
        C.refused(x, "pause(0)", IllegalArgumentException.class, () -> x.pause(0));
        C.refused(x, "set(2, -1)", IllegalArgumentException.class, () -> x.set(2, -1));
        C.refused(x, "choose(2)", IndexOutOfBoundsException.class, () -> x.choose(2));
        C.refused(x, "add(0)", IllegalArgumentException.class, () -> x.add(0));
        C.due("length of the text", x.clearText(), 26);
        C.due("undo() of the press alone", x.undo(), 13);
        C.same("the numbers then", Check.numbers(x), before);
        C.due("length of the text is no state", x.clearText(), 0);
    }

    private static void fourteenStates() {
        MirrorBridge x = new MirrorBridge();
        List<Integer> clocks = new ArrayList<>();
        for (int round = 0; round < 3; round++) {
            for (int i = 0; i < 17; i++) {
                clocks.add(x.about(9));
                x.press(i % 3 == 0);
            }
            for (int left = 13; left >= 0; left--) {
                C.due("undo()", x.undo(), left);
                C.due("clock", x.about(9), clocks.remove(clocks.size() - 1));
            }
            C.refused(x, "undo() of a forgotten state", IllegalStateException.class, x::undo);
            x.pause(round + 1);
            C.due("undo() of the next action", x.undo(), 0);
        }
    }
}
