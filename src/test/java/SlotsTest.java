/** Promises 28 and 29: save, restore. */
final class SlotsTest {
    private static final Check C = new Check("SlotsTest");

    public static void main(String[] args) {
        saveAndRestore();
        noSuchSlot();
        emptySlots();
        remembered();
        C.end();
    }

    private static MirrorBridge used() {
        MirrorBridge x = Check.bridge("G221000103+0104x1500x0300");
        for (int i = 0; i < 23; i++) {
            x.press(i % 2 == 0);
        }
        x.set(4, 0);
        x.press(true);
        return x;
    }

    private static void saveAndRestore() {
        MirrorBridge x = used();
        String first = Check.numbers(x);
        C.due("save(0)", x.save(0), 24);
        C.same("what is seen after save(0)", Check.numbers(x), first);
        x.free();
        x.choose(1);
        x.add(5);
        x.set(0, 3);
        x.set(1, 0);
        x.set(2, 9);
        x.set(3, 98);
        x.set(4, 2);
        x.set(5, -40);
        x.set(6, 13);
        x.pair();
        String second = Check.numbers(x);
        C.due("save(1)", x.save(1), 31);
        x.balance();
        C.due("restore(0)", x.restore(0), 24);
        C.same("what is seen after restore(0)", Check.numbers(x), first);
        C.due("restore(1)", x.restore(1), 31);
        C.same("what is seen after restore(1)", Check.numbers(x), second);
        x.pair();
        x.pause(100);
        // the slots keep what is in them
        C.due("restore(1) again", x.restore(1), 31);
        C.same("what is seen after restore(1) again", Check.numbers(x), second);
        C.due("restore(0) again", x.restore(0), 24);
        C.same("what is seen after restore(0) again", Check.numbers(x), first);
        x.pause(1);
        C.due("save(0) again", x.save(0), 25);
        x.pause(1);
        C.due("restore(0) of the later state", x.restore(0), 25);
        // the text is no part of it
        C.due("length of the text", x.clearText(), 25);
        C.due("restore(1)", x.restore(1), 31);
        C.due("length of the text", x.clearText(), 0);
    }

    private static void noSuchSlot() {
        for (int slot : new int[] {-1, 2, Integer.MIN_VALUE, Integer.MAX_VALUE}) {
            MirrorBridge x = used();
            C.refused(x, "save(" + slot + ")", IndexOutOfBoundsException.class, () -> x.save(slot));
            C.refused(x, "restore(" + slot + ")", IndexOutOfBoundsException.class, () -> x.restore(slot));
        }
    }

    private static void emptySlots() {
        MirrorBridge x = new MirrorBridge();
        C.refused(x, "restore(0)", IllegalStateException.class, () -> x.restore(0));
        C.refused(x, "restore(2) of empty slots", IndexOutOfBoundsException.class, () -> x.restore(2));
        C.due("save(1)", x.save(1), 0);
        C.refused(x, "restore(0) beside a full slot", IllegalStateException.class, () -> x.restore(0));
        x.press(false);
        C.due("restore(1)", x.restore(1), 0);
        C.due("presses", x.about(14), 0);
        Check.write(x, "G221000103+0004x1500");
        x.load();
        C.refused(x, "restore(1) after load()", IllegalStateException.class, () -> x.restore(1));
        x.save(0);
        C.refused(x, "restore(1) after load() and save(0)", IllegalStateException.class, () -> x.restore(1));
        C.due("restore(0)", x.restore(0), 0);
    }

    private static void remembered() {
        MirrorBridge x = new MirrorBridge();
        x.pause(1);
        x.pause(2);
        x.save(0);
        x.pause(3);
        // save() is no action
        C.due("undo() of pause(3)", x.undo(), 2);
        C.due("clock", x.about(9), 3);
        x.pause(4);
        C.refused(x, "restore(1)", IllegalStateException.class, () -> x.restore(1));
        C.due("undo() after a restore() that throws", x.undo(), 2);
        C.due("restore(0)", x.restore(0), 3);
        C.refused(x, "undo() after restore(0)", IllegalStateException.class, x::undo);
        x.pause(5);
        C.due("undo() of pause(5)", x.undo(), 0);
        C.due("clock", x.about(9), 3);
        // undo() leaves the slots alone
        x.pause(6);
        x.save(1);
        x.undo();
        C.due("clock", x.about(9), 3);
        C.due("restore(1) of what was taken back", x.restore(1), 9);
    }
}
