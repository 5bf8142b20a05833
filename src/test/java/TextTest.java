/** Promises 1 to 5: a new object, the text buffer, load. */
final class TextTest {
    private static final Check C = new Check("TextTest");
    private static final String GOOD = "G221000103+0004x1500";

    public static void main(String[] args) {
        newObject();
        append();
        clearText();
        errorPosition();
        load();
        loadOfABadText();
        C.end();
    }

    private static void newObject() {
        MirrorBridge x = new MirrorBridge();
        C.allAbout("a new object", x, 2, 2, 1000, 10, 3, 0, 4, 0, 0, 0, 1, 0, 0, 0, 0, 0);
        // N = 100 * 1500 - 100 * 1000 tells the ohms of the one unknown resistor
        C.due("bridge(0) of a new object", x.bridge(0), 50000);
        C.due("errorPosition() of a new object", x.errorPosition(), 0);
        C.due("clearText() of a new object", x.clearText(), 0);
        C.refused(x, "undo() of a new object", IllegalStateException.class, x::undo);
        C.refused(x, "restore(0) of a new object", IllegalStateException.class, () -> x.restore(0));
        C.refused(x, "restore(1) of a new object", IllegalStateException.class, () -> x.restore(1));
        C.due("NONE", MirrorBridge.NONE, -9999);

        MirrorBridge other = new MirrorBridge();
        other.press(false);
        C.due("presses of the first object", x.about(14), 0);
    }

    private static void append() {
        MirrorBridge x = new MirrorBridge();
        C.refused(x, "append(-1)", IllegalArgumentException.class, () -> x.append(-1));
        C.refused(x, "append(256)", IllegalArgumentException.class, () -> x.append(256));
        C.due("append(0)", x.append(0), 1);
        C.due("append(255)", x.append(255), 2);
        for (int length = 3; length <= 60; length++) {
            C.due("append('G')", x.append('G'), length);
        }
        C.refused(x, "append to a full text", IllegalStateException.class, () -> x.append('G'));
        C.refused(x, "append(256) to a full text", IllegalArgumentException.class, () -> x.append(256));
        C.refused(x, "append(-1) to a full text", IllegalArgumentException.class, () -> x.append(-1));
        C.due("clearText() of a full text", x.clearText(), 60);
    }

    private static void clearText() {
        MirrorBridge x = new MirrorBridge();
        Check.write(x, GOOD);
        C.due("errorPosition()", x.errorPosition(), MirrorBridge.NONE);
        C.due("clearText()", x.clearText(), 20);
        C.due("clearText() again", x.clearText(), 0);
        C.due("errorPosition() of no text", x.errorPosition(), 0);
        C.due("append()", x.append('G'), 1);
        C.due("errorPosition() of G", x.errorPosition(), 1);
    }

    private static void errorAt(String text, int due) {
        MirrorBridge x = new MirrorBridge();
        Check.write(x, text);
        C.due("errorPosition() of " + text, x.errorPosition(), due);
        C.due("length of " + text, x.clearText(), text.length());
    }

    private static void errorPosition() {
        for (int length = 0; length < GOOD.length(); length++) {
            errorAt(GOOD.substring(0, length), length);
        }
        errorAt(GOOD, MirrorBridge.NONE);
        errorAt("G2210001030+0004x1500", 10);

        // what may stand at each place of a text that is right up to there
        String[][] places = {
            {"G3", "/4: x\u0000\u00ff", "0123"},
            {"G12", "/:a+", "0123456789"},
            {"G126", "/:", "0123456789"},
            {"G1260", "/:", "0123456789"},
            {"G12605", "/:", "0123456789"},
            {"G126050", "/:", "0123456789"},
            {"G1260500", "0/:", "123456789"},
            {"G1260509", "/:", "0123456789"},
            {"G12605099", "/45", "0123"},
            {"G126050990", "0*, .", "+-"},
            {"G126050990-", "/6789:", "012345"},
            {"G126050990-4", "/:", "0123456789"},
            {"G126050990-5", "/1:9", "0"},
            {"G126050990+0", "/:", "0123456789"},
            {"G126050990+00", "/3459:", "012"},
            {"G126050990+001", "/:", "0123456789"},
            {"G126050990+002", "/12359:", "0"},
            {"G126050990-0020", "Xyw0 ", "x"},
            {"G126050990-0020x", "/:x", "0123456789"},
            {"G126050990-0020x0", "/:", "0123456789"},
            {"G126050990-0020x00", "/:", "0123456789"},
            {"G126050990-0020x000", "0/:", "123456789"},
            {"G126050990-0020x123", "/:", "0123456789"},
            {"G126050990-0020x0100", "0y ", "x"},
        };
        for (String[] place : places) {
            int at = place[0].length();
            for (char c : place[1].toCharArray()) {
                errorAt(place[0] + c, at);
            }
            for (char c : place[2].toCharArray()) {
                String longer = place[0] + c;
                boolean whole = longer.length() >= 20 && (longer.length() - 15) % 5 == 0;
                errorAt(longer, whole ? MirrorBridge.NONE : longer.length());
            }
        }
        errorAt("g", 0);
        errorAt("xG", 0);
        errorAt(" " + GOOD, 0);
        errorAt(GOOD + " ", 20);
        errorAt(GOOD + "x0000", 24);
        // the first one of two errors
        errorAt("G4a", 1);
        String six = GOOD + "x0001x9999x1000x0100x0010";
        errorAt(six, MirrorBridge.NONE);
        errorAt(six + "x", 45);
        errorAt(six + "x1234", 45);
        errorAt(six + "x1234x1234x1234", 45);
    }

    private static void load() {
        MirrorBridge x = new MirrorBridge();
        Check.write(x, "G130047052-5010x0004x0005x0006x0400x0470x4700");
        x.set(3, 99);
        x.set(4, 0);
        x.press(false);
        x.save(0);
        x.save(1);
        C.due("the galvanometer sticks", x.about(12), 1);
        C.due("load()", x.load(), 6);
        C.allAbout("what was loaded", x, 1, 3, 47, 5, 2, -50, 10, 0, -50, 0, 6, 0, 0, 0, 0, 0);
        int[] ohms = {4, 5, 6, 400, 470, 4700};
        for (int i = 0; i < ohms.length; i++) {
            x.choose(i);
            C.due("N with " + i, x.bridge(0), 1000 * ohms[i] - 10 * 47);
        }
        for (int i = 0; i < 6; i++) {
            x.undo();
        }
        C.refused(x, "undo() of what was ahead of load()", IllegalStateException.class, x::undo);
        C.refused(x, "restore(0) after load()", IllegalStateException.class, () -> x.restore(0));
        C.refused(x, "restore(1) after load()", IllegalStateException.class, () -> x.restore(1));
        C.due("load() again, of the text that is kept", x.load(), 6);
        C.refused(x, "undo() of load()", IllegalStateException.class, x::undo);
        C.due("length of the text that is kept", x.clearText(), 45);

        MirrorBridge least = Check.bridge("G000000010-0000x0001");
        C.allAbout("the least text", least, 0, 0, 0, 1, 0, 0, 0, 0, 0, 0, 1, 0, 0, 0, 0, 0);
        MirrorBridge greatest = Check.bridge("G339999993+5020x9999");
        C.allAbout("the greatest text", greatest, 3, 3, 9999, 99, 3, 50, 20, 0, 50, 0, 1, 0, 0, 0, 0, 0);
        C.due("unknown resistors of a shorter text", loadOver(x, "G000000010-0101x0009x0007"), 2);
        C.refused(x, "choose(2) after a shorter text", IndexOutOfBoundsException.class, () -> x.choose(2));
        x.choose(1);
        C.due("load() puts the first one into the bridge", loadOver(x, "G000000010-0101x0009x0007") + x.about(11), 2);
    }

    private static int loadOver(MirrorBridge x, String text) {
        Check.write(x, text);
        return x.load();
    }

    private static void loadOfABadText() {
        MirrorBridge x = new MirrorBridge();
        x.press(true);
        x.save(0);
        x.pause(3);
        for (String text : new String[] {"", "G", GOOD + "x", GOOD + " ", "G221000003+0004x1500"}) {
            Check.write(x, text);
            C.refused(x, "load() of " + text, IllegalStateException.class, x::load);
            C.due("length of the bad text", x.clearText(), text.length());
        }
        C.due("undo() after a load() that throws", x.undo(), 1);
        C.due("restore(0) after a load() that throws", x.restore(0), 1);
    }
}
