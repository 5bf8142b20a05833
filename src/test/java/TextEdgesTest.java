/**
 * The boundaries of the term TEXT and of promises 2 to 5: a test for each sentence, on both sides of
 * its boundary, and each place of a text with each of the 256 characters.
 */
final class TextEdgesTest {
    private static final Check C = new Check("TextEdgesTest");
    private static final int NONE = MirrorBridge.NONE;
    private static final Class<?> ARGUMENT = IllegalArgumentException.class;
    private static final Class<?> STATE = IllegalStateException.class;
    private static final String HEAD = "G221000103+0004";
    private static final String SIX = HEAD + "x0001x9999x1000x0100x0010x1500";

    public static void main(String[] args) {
        rules();
        errorPositions();
        buffer();
        loading();
        C.end();
    }

    private static void rules() {
        String place = "TEXT";
        C.sentence(place, "The object has a text buffer of at most 60 characters.", TextEdgesTest::sixty);
        C.sentence(place, "A text is the letter G", TextEdgesTest::letterG);
        C.sentence(place, "the digits of the indices of P and Q (0 to 3)", TextEdgesTest::arms);
        C.sentence(place, "four digits for R (0000 to 9999)", TextEdgesTest::box);
        C.sentence(place, "two for E (01 to 99)", TextEdgesTest::battery);
        C.sentence(place, "the digit of the index of the shunt (0 to 3)", TextEdgesTest::shunt);
        C.sentence(place, "a sign, + or -", TextEdgesTest::sign);
        C.sentence(place, "two digits for the steady offset (00 to 50)", TextEdgesTest::steady);
        C.sentence(place, "two digits for the drift (00 to 20)", TextEdgesTest::drift);
        C.sentence(place, "and 1 to 6 unknown resistors", TextEdgesTest::oneToSix);
        C.sentence(place, "each of them the letter x and four digits (0001 to 9999)", TextEdgesTest::unknown);
        C.sentence(place, "the first one is in the bridge", TextEdgesTest::firstInTheBridge);
        C.sentence(place, "There are no blanks.", TextEdgesTest::noBlanks);
    }

    private static void errorPositions() {
        String place = "TEXT";
        C.sentence(place, "The text is read from left to right.", TextEdgesTest::firstOfTwoErrors);
        C.sentence(place, "the index of the first character that these rules do not allow at its place",
                TextEdgesTest::eachCharacterAtEachPlace);
        C.sentence(place, "a digit is not allowed if no number that is allowed begins with it and those before it",
                TextEdgesTest::beginsNoNumber);
        C.sentence(place, "+00 and -00 are both allowed", TextEdgesTest::bothZeros);
        C.sentence(place, "if the text ends too soon, it is the length of the text", TextEdgesTest::tooSoon);
        C.sentence("Promise 4", "NONE if it is a text as described above", TextEdgesTest::none);
    }

    private static void buffer() {
        C.sentence("Promise 2", "character code, 0 to 255", TextEdgesTest::codes);
        C.sentence("Promise 2", "Returns the new length of the text.", TextEdgesTest::newLength);
        C.sentence("Promise 2", "if the text already has 60 characters", TextEdgesTest::full);
        C.sentence("EXCEPTIONS", "the one that its description names first is thrown", TextEdgesTest::rangeFirst);
        C.sentence("Promise 3", "Empties the text buffer.", TextEdgesTest::emptied);
        C.sentence("Promise 3", "Returns the previous length of the text.", TextEdgesTest::previousLength);
    }

    private static void loading() {
        String place = "Promise 5";
        C.sentence(place, "Makes everything as the text tells", TextEdgesTest::asTheTextTells);
        C.sentence(place, "the warmth, the clock, the presses and the overloads so far are 0", TextEdgesTest::fromZero);
        C.sentence(place, "the ledger is empty, the galvanometer is free", TextEdgesTest::emptyAndFree);
        C.sentence(place, "Forgets all remembered states", TextEdgesTest::forgets);
        C.sentence(place, "and empties both save slots", TextEdgesTest::emptiesSlots);
        C.sentence(place, "Keeps the text.", TextEdgesTest::keepsTheText);
        C.sentence(place, "Returns the number of unknown resistors.", TextEdgesTest::number);
        C.sentence(place, "if the text is not as described above", TextEdgesTest::notAsDescribed);
    }

    private static void error(String text, int due) {
        MirrorBridge x = new MirrorBridge();
        Check.write(x, text);
        C.due("errorPosition() of " + text, x.errorPosition(), due);
    }

    /** All of these characters are allowed behind the text, and none of those. */
    private static void next(String text, String allowed, String not) {
        for (char c : allowed.toCharArray()) {
            error(text + c + '!', text.length() + 1);
        }
        for (char c : not.toCharArray()) {
            error(text + c + '!', text.length());
        }
    }

    // ---- the rules

    private static void sixty() {
        MirrorBridge x = new MirrorBridge();
        for (int i = 0; i < 59; i++) {
            x.append('G');
        }
        C.due("the sixtieth character", x.append('G'), 60);
        C.same("one more", Check.answer(() -> x.append('G')), STATE.getName());
        C.due("the length", x.clearText(), 60);
    }

    private static void letterG() {
        next("", "G", "FHg\u00c7 x0");
        // a letter whose code differs from that of G by 256 cannot be appended at all
        C.refusedAfter("append('G' + 256)", ARGUMENT, x -> { }, x -> x.append('G' + 256));
    }

    private static void arms() {
        next("G", "0123", "/4");
        next("G0", "0123", "/4");
        next("G3", "0123", "/4");
    }

    private static void box() {
        String digits = "0123456789";
        for (String text : new String[] {"G22", "G220", "G229", "G2200", "G2299", "G22000", "G22999"}) {
            next(text, digits, "/:");
        }
    }

    private static void battery() {
        next("G221000", "0123456789", "/:");
        next("G2210000", "123456789", "0/:");
        next("G2210001", "0123456789", "/:");
        next("G2210009", "0123456789", "/:");
    }

    private static void shunt() {
        next("G22100010", "0123", "/4");
        next("G22100099", "0123", "/4");
    }

    private static void sign() {
        next("G221000103", "+-", "*,./0");
    }

    private static void steady() {
        for (char sign : new char[] {'+', '-'}) {
            String text = "G221000103" + sign;
            next(text, "012345", "/6789:");
            next(text + '0', "0123456789", "/:");
            next(text + '4', "0123456789", "/:");
            next(text + '5', "0", "/123456789:");
        }
    }

    private static void drift() {
        next("G221000103+00", "012", "/3456789:");
        next("G221000103+000", "0123456789", "/:");
        next("G221000103+001", "0123456789", "/:");
        next("G221000103+002", "0", "/123456789:");
    }

    private static void oneToSix() {
        error(HEAD, 15);
        for (int n = 1; n <= 6; n++) {
            error(SIX.substring(0, 15 + 5 * n), NONE);
        }
        error(SIX + "x", 45);
        error(SIX + "x1500", 45);
        error(SIX + "x1500x1500x1500", 45);
        next(SIX, "", "x0Gy ");
        next(SIX.substring(0, 40), "x", "wyX0 ");
    }

    private static void unknown() {
        next(HEAD, "x", "wyX0 ");
        next(HEAD + "x", "0123456789", "/:x");
        next(HEAD + "x0", "0123456789", "/:x");
        next(HEAD + "x00", "0123456789", "/:x");
        error(HEAD + "x0000", 19);
        error(HEAD + "x0001", NONE);
        error(HEAD + "x0010", NONE);
        error(HEAD + "x0100", NONE);
        error(HEAD + "x1000", NONE);
        error(HEAD + "x9999", NONE);
        error(HEAD + "x000/", 19);
        error(HEAD + "x000:", 19);
        error(SIX.substring(0, 40) + "x0000", 44);
        error(SIX.substring(0, 40) + "x0001", NONE);
    }

    private static void firstInTheBridge() {
        MirrorBridge x = Check.bridge(HEAD + "x0007x0008");
        C.due("about(11)", x.about(11), 0);
        C.due("N", x.bridge(0), 700 - 100000);
        x.choose(1);
        x.load();
        C.due("about(11) after another load()", x.about(11), 0);
        C.due("N after another load()", x.bridge(0), 700 - 100000);
    }

    private static void noBlanks() {
        String text = HEAD + "x1500x0300";
        for (int at = 0; at <= text.length(); at++) {
            error(text.substring(0, at) + " " + text.substring(at), at);
        }
        for (int blank : new int[] {9, 10, 13, 160}) {
            error(HEAD + (char) blank + "x1500", 15);
        }
    }

    // ---- the error position

    private static void firstOfTwoErrors() {
        error("g4", 0);
        error("G44", 1);
        error("G24", 2);
        error("G2210000x", 7 + 1);
        error("G221000103+60x", 11);
        error(HEAD + "x0000x0000", 19);
        error(HEAD + "x1500x0000", 24);
    }

    private static void eachCharacterAtEachPlace() {
        String digits = "0123456789";
        String text = "G000000101+0000x1000x1000x1000x1000x1000x1000";
        String[] allowed = new String[46];
        for (int at = 0; at < 45; at++) {
            allowed[at] = at >= 15 && at % 5 == 0 ? "x" : digits;
        }
        allowed[0] = "G";
        allowed[1] = "0123";
        allowed[2] = "0123";
        allowed[9] = "0123";
        allowed[10] = "+-";
        allowed[11] = "012345";
        allowed[13] = "012";
        allowed[45] = "";
        places(text, allowed);
        // the same places behind the digits that leave no more than one or all but one
        allowed[8] = "123456789";
        allowed[12] = "0";
        allowed[14] = "0";
        for (int at = 19; at < 45; at += 5) {
            allowed[at] = "123456789";
        }
        places("G333999013-5020x0001x0002x0003x0004x0005x0006", allowed);
    }

    private static void places(String text, String[] allowed) {
        for (int at = 0; at <= text.length(); at++) {
            for (char c = 0; c <= 255; c++) {
                String longer = text.substring(0, at) + c;
                int good = at >= 19 && at % 5 == 4 ? NONE : at + 1;
                error(longer, allowed[at].indexOf(c) >= 0 ? good : at);
            }
        }
    }

    private static void beginsNoNumber() {
        // 00 is no E; 6. and 51 are no steady offsets; 3. and 21 are no drifts; 0000 is no unknown resistor
        error("G22100000", 8);
        error("G22100009", 9);
        error("G221000103+6", 11);
        error("G221000103+51", 12);
        error("G221000103+50", 13);
        error("G221000103+003", 13);
        error("G221000103+0021", 14);
        error("G221000103+0020", 15);
        error(HEAD + "x0000", 19);
        error(HEAD + "x000", 19);
    }

    private static void bothZeros() {
        for (String sign : new String[] {"+", "-"}) {
            String text = "G221000103" + sign + "0004x1500";
            error(text, NONE);
            C.due("the steady offset of " + text, Check.bridge(text).about(5), 0);
        }
    }

    private static void tooSoon() {
        for (int length = 0; length <= 45; length++) {
            boolean whole = length >= 20 && length % 5 == 0;
            error(SIX.substring(0, length), whole ? NONE : length);
        }
    }

    private static void none() {
        error(HEAD + "x1500", NONE);
        error(SIX, NONE);
        error("G000000010-0000x0001", NONE);
        error("G339999993+5020x9999x9999x9999x9999x9999x9999", NONE);
        error("", 0);
        error(HEAD + "x150", 19);
        error(HEAD + "x1500x", 21);
        error(HEAD + "x15000", 20);
    }

    // ---- the buffer

    private static void half(MirrorBridge x) {
        Check.write(x, HEAD + "x15");
    }

    private static void codes() {
        for (int c : new int[] {0, 255}) {
            C.due("append(" + c + ")", new MirrorBridge().append(c), 1);
            C.due("append(" + c + ") to a text", Scene.after(TextEdgesTest::half).append(c), 19);
        }
        for (int c : new int[] {-1, 256, Integer.MIN_VALUE, Integer.MAX_VALUE}) {
            C.refusedAfter("append(" + c + ")", ARGUMENT, x -> { }, x -> x.append(c));
            C.refusedAfter("append(" + c + ") to a text", ARGUMENT, TextEdgesTest::half, x -> x.append(c));
        }
    }

    private static void newLength() {
        MirrorBridge x = new MirrorBridge();
        for (int length = 1; length <= 60; length++) {
            C.due("append()", x.append(length), length);
        }
    }

    /** A good text with as many characters behind it as it takes. */
    private static Scene.Calls filled(int length) {
        return x -> {
            Check.write(x, SIX);
            for (int i = SIX.length(); i < length; i++) {
                x.append('x');
            }
        };
    }

    private static void full() {
        C.due("append() to 58 characters", Scene.after(filled(58)).append('G'), 59);
        C.due("append() to 59 characters", Scene.after(filled(59)).append('G'), 60);
        C.refusedAfter("append() to 60 characters", STATE, filled(60), x -> x.append('G'));
        C.refusedAfter("append(0) to 60 characters", STATE, filled(60), x -> x.append(0));
        C.refusedAfter("append(255) to 60 characters", STATE, filled(60), x -> x.append(255));
        C.due("the length of 60 characters and one more",
                Scene.after(Scene.then(filled(60), x -> Check.answer(() -> x.append('G')))).clearText(), 60);
    }

    private static void rangeFirst() {
        for (int c : new int[] {-1, 256}) {
            C.refusedAfter("append(" + c + ") to 60 characters", ARGUMENT, filled(60), x -> x.append(c));
        }
    }

    private static void emptied() {
        for (int length : new int[] {45, 60}) {
            MirrorBridge x = Scene.after(filled(length));
            x.clearText();
            C.due("errorPosition()", x.errorPosition(), 0);
            C.refused(x, "load()", STATE, x::load);
            C.due("append('G')", x.append('G'), 1);
            // what stood behind it is gone
            C.due("errorPosition()", x.errorPosition(), 1);
        }
        Scene.Calls filledAgain = Scene.then(filled(60), filled(60));
        C.due("the length of 60 characters again", Scene.after(filledAgain).clearText(), 60);
    }

    private static void previousLength() {
        C.due("clearText() of no text", new MirrorBridge().clearText(), 0);
        C.due("clearText() of 1 character", Scene.after(x -> x.append(0)).clearText(), 1);
        C.due("clearText() of 60 characters", Scene.after(filled(60)).clearText(), 60);
        MirrorBridge x = Scene.after(filled(60));
        x.clearText();
        C.due("clearText() again", x.clearText(), 0);
    }

    // ---- load

    private static void asTheTextTells() {
        C.allAbout("the least numbers", Check.bridge("G000000010-5000x0001"),
                0, 0, 0, 1, 0, -50, 0, 0, -50, 0, 1, 0, 0, 0, 0, 0);
        C.allAbout("the greatest numbers", Check.bridge("G339999993+5020x9999x9999x9999x9999x9999x9999"),
                3, 3, 9999, 99, 3, 50, 20, 0, 50, 0, 6, 0, 0, 0, 0, 0);
        MirrorBridge x = Check.bridge("G123456781-4719x1234x0001x9999x0020x0300x4000");
        C.allAbout("other numbers", x, 1, 2, 3456, 78, 1, -47, 19, 0, -47, 0, 6, 0, 0, 0, 0, 0);
        int[] ohms = {1234, 1, 9999, 20, 300, 4000};
        for (int i = 0; i < 6; i++) {
            x.choose(i);
            C.due("N with " + i, x.bridge(0), 100 * ohms[i] - 34560);
        }
        // fewer unknown resistors than there were
        Check.write(x, HEAD + "x0005");
        x.load();
        C.due("unknown resistors", x.about(10), 1);
        C.due("N", x.bridge(0), 500 - 100000);
        C.refused(x, "choose(1)", IndexOutOfBoundsException.class, () -> x.choose(1));
        C.due("add(3)", x.add(3), 1);
    }

    /** A stuck bridge with 16 actions behind it, a full ledger, both slots and a good text. */
    private static void used(MirrorBridge x) {
        x.set(4, 3);
        for (int i = 0; i < 12; i++) {
            x.pair();
        }
        x.save(0);
        x.pause(2);
        x.save(1);
        x.set(4, 0);
        x.press(false);
        Check.write(x, HEAD + "x1500x0300");
    }

    private static void fromZero() {
        MirrorBridge x = Scene.after(TextEdgesTest::used);
        C.due("presses", x.about(14), 25);
        C.due("overloads", x.about(15), 1);
        C.due("clock", x.about(9), 27);
        C.due("warmth is above 0", x.about(7) > 0 ? 1 : 0, 1);
        x.load();
        for (int what : new int[] {7, 9, 14, 15}) {
            C.due("about(" + what + ") after load()", x.about(what), 0);
        }
    }

    private static void emptyAndFree() {
        MirrorBridge x = Scene.after(TextEdgesTest::used);
        C.due("readings", x.about(13), 20);
        C.due("sticks", x.about(12), 1);
        x.load();
        C.due("readings after load()", x.about(13), 0);
        C.told(x, 0, NONE, NONE, NONE, NONE);
        C.told(x, 19, NONE, NONE, NONE, NONE);
        C.due("sticks after load()", x.about(12), 0);
        C.due("press() after load()", x.press(false), 100);
        C.due("readings", x.about(13), 1);
        C.told(x, 1, NONE, NONE, NONE, NONE);
    }

    private static void forgets() {
        C.due("undo() ahead of load()", Scene.after(TextEdgesTest::used).undo(), 13);
        C.refusedAfter("undo() after load()", STATE, Scene.then(TextEdgesTest::used, MirrorBridge::load),
                MirrorBridge::undo);
        MirrorBridge x = Scene.after(TextEdgesTest::used);
        x.load();
        x.pause(1);
        C.due("undo() of an action after load()", x.undo(), 0);
        C.refused(x, "undo() of what was ahead of load()", STATE, x::undo);
    }

    private static void emptiesSlots() {
        for (int slot = 0; slot <= 1; slot++) {
            int k = slot;
            C.due("restore(" + k + ") ahead of load()", Scene.after(TextEdgesTest::used).restore(k), 24 + 2 * k);
            C.refusedAfter("restore(" + k + ") after load()", STATE,
                    Scene.then(TextEdgesTest::used, MirrorBridge::load), x -> x.restore(k));
        }
    }

    private static void keepsTheText() {
        MirrorBridge x = Scene.after(TextEdgesTest::used);
        C.due("load()", x.load(), 2);
        C.due("errorPosition() after load()", x.errorPosition(), NONE);
        C.due("load() again", x.load(), 2);
        C.due("append() after load()", x.append('x'), 26);
        C.due("errorPosition()", x.errorPosition(), 26);
        C.due("length", x.clearText(), 26);
    }

    private static void number() {
        for (int n = 1; n <= 6; n++) {
            MirrorBridge x = new MirrorBridge();
            Check.write(x, SIX.substring(0, 15 + 5 * n));
            C.due("load()", x.load(), n);
            C.due("about(10)", x.about(10), n);
        }
    }

    private static void notAsDescribed() {
        C.refusedAfter("load() of a new object", STATE, x -> { }, MirrorBridge::load);
        for (int length = 0; length <= 45; length++) {
            String text = SIX.substring(0, length);
            if (length >= 20 && length % 5 == 0) {
                C.due("load() of " + text, Scene.after(x -> Check.write(x, text)).load(), (length - 15) / 5);
            } else {
                refusedText(text);
            }
        }
        String[] texts = {SIX + "x", SIX + "x0001", " " + SIX, SIX + " ", "G22100000", "G221000003+0004x1500",
            "G221000103+5104x1500", "G221000103+0021x1500", HEAD + "x0000", HEAD + "x1500x0000", "G421000103+0004x1500",
            "G241000103+0004x1500", "G221000104+0004x1500", "G221000103 0004x1500", HEAD + "X1500"};
        for (String text : texts) {
            refusedText(text);
        }
    }

    private static void refusedText(String text) {
        C.refusedAfter("load() of " + text, STATE, Scene.then(TextEdgesTest::used, x -> Check.write(x, text)),
                MirrorBridge::load);
    }
}
