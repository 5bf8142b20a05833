/**
 * The boundaries of promises 9 to 16, the actions: a test for each sentence, on both sides of its
 * boundary. Those of a press itself stand in BridgeEdgesTest, those of undo() in UndoEdgesTest.
 */
final class ActionEdgesTest {
    private static final Check C = new Check("ActionEdgesTest");
    private static final Class<?> ARGUMENT = IllegalArgumentException.class;
    private static final Class<?> STATE = IllegalStateException.class;
    private static final Class<?> INDEX = IndexOutOfBoundsException.class;
    private static final String USUAL = "G221000103+0004x1500x0300";
    /** The galvanometer sticks at the first press: its true deflection is 200000. */
    private static final String COARSE = "G001000100+0004x1500";

    public static void main(String[] args) {
        presses();
        numbers();
        unknowns();
        freeing();
        balancing();
        C.end();
    }

    private static void presses() {
        C.sentence("Promise 9", "Returns the reading.", ActionEdgesTest::pressReturns);
        C.sentence("Promise 9", "if the galvanometer sticks", ActionEdgesTest::pressRefused);
        C.sentence("Promise 10", "the key is pressed forward, and then, if the galvanometer is free, reversed",
                ActionEdgesTest::forwardThenReversed);
        C.sentence("Promise 10", "Returns the first reading minus the second one", ActionEdgesTest::firstMinusSecond);
        C.sentence("Promise 10", "(the first one alone if there is no second one)", ActionEdgesTest::firstAlone);
        C.sentence("Promise 10", "if the galvanometer sticks", ActionEdgesTest::pairRefused);
        C.sentence("Promise 11", "number of ticks, 1 to 200", ActionEdgesTest::ticks);
        C.sentence("Promise 11", "Returns the offset then.", ActionEdgesTest::offsetThen);
    }

    private static void numbers() {
        String place = "Promise 12";
        C.sentence(place, "0: the index of P, 0 to 3", () -> range(0, 0, 3, 2));
        C.sentence(place, "1: that of Q, 0 to 3", () -> range(1, 0, 3, 2));
        C.sentence(place, "2: R, 0 to 9999", () -> range(2, 0, 9999, 1000));
        C.sentence(place, "3: E, 1 to 99", () -> range(3, 1, 99, 10));
        C.sentence(place, "4: the index of the shunt, 0 to 3", () -> range(4, 0, 3, 3));
        C.sentence(place, "5: the steady offset, -50 to 50", () -> range(5, -50, 50, 0));
        C.sentence(place, "6: the drift, 0 to 20", () -> range(6, 0, 20, 4));
        C.sentence(place, "Returns the previous number.", ActionEdgesTest::previousNumber);
        C.sentence(place, "if what or v is out of range", ActionEdgesTest::whatOutOfRange);
    }

    private static void unknowns() {
        C.sentence("Promise 13", "Returns the one that was in it.", ActionEdgesTest::wasInIt);
        C.sentence("Promise 13", "if there is no such unknown resistor", ActionEdgesTest::noSuchUnknown);
        C.sentence("Promise 14", "ohms`: 1 to 9999", ActionEdgesTest::ohms);
        C.sentence("Promise 14", "Returns its number.", ActionEdgesTest::itsNumber);
        C.sentence("Promise 14", "if there are 6 unknown resistors", ActionEdgesTest::sixUnknowns);
        C.sentence("EXCEPTIONS", "the one that its description names first is thrown", ActionEdgesTest::ohmsFirst);
    }

    private static void freeing() {
        C.sentence("Promise 15", "this lasts 5 ticks of waiting (also if it was free)", ActionEdgesTest::fiveTicks);
        C.sentence("Promise 15", "Returns 1 if it stuck, 0 if it was free.", ActionEdgesTest::stuckOrFree);
    }

    private static void balancing() {
        String place = "Promise 16";
        C.sentence(place, "R becomes 0 (without a pair)", ActionEdgesTest::withoutAPair);
        C.sentence(place, "for the decades 1000, 100, 10 and 1, one after the other", ActionEdgesTest::decades);
        C.sentence(place, "as long as it is at most 9999 then", ActionEdgesTest::atMost);
        C.sentence(place, "a pair with this R has a result of at least 0", ActionEdgesTest::atLeastZero);
        C.sentence(place, "(a result below 0 takes the last increase back)", ActionEdgesTest::takenBack);
        C.sentence(place, "If the galvanometer sticks in a pair, balancing ends there", ActionEdgesTest::endsThere);
        C.sentence(place, "whatever its result is, and R stays as in this pair", ActionEdgesTest::whateverItsResult);
        C.sentence(place, "Returns R then.", ActionEdgesTest::returnsR);
        C.sentence(place, "if the galvanometer sticks", ActionEdgesTest::balanceRefused);
    }

    private static Scene.Calls loaded(String text) {
        return x -> {
            Check.write(x, text);
            x.load();
        };
    }

    private static Scene.Calls stuck() {
        return Scene.then(loaded(COARSE), x -> x.press(false));
    }

    // ---- press, pair, pause

    private static void pressReturns() {
        MirrorBridge x = Check.bridge(USUAL);
        C.due("press(false)", x.press(false), 100);
        C.due("press(true)", x.press(true), -100);
        x.set(5, 50);
        C.due("press(false)", x.press(false), 150);
        C.due("press(true)", x.press(true), 51 - 100);
    }

    private static void pressRefused() {
        C.due("press() when it is free", Scene.after(loaded(COARSE)).press(false), 500);
        C.refusedAfter("press(false) when it sticks", STATE, stuck(), x -> x.press(false));
        C.refusedAfter("press(true) when it sticks", STATE, stuck(), x -> x.press(true));
    }

    private static void forwardThenReversed() {
        MirrorBridge x = Check.bridge("G221000993+0020x1500");
        C.due("pair()", x.pair(), 500 + 500);
        C.told(x, 0, -500, -1, 1000, 1);
        C.told(x, 1, 500, 1, 1000, 0);
        C.due("presses", x.about(14), 2);
        C.due("warmth", x.about(7), 198);
        // the warmth ahead of the second press is that behind the first one
        MirrorBridge balanced = Check.bridge("G221500993+0020x1500");
        C.due("pair() in balance", balanced.pair(), 0 - 19);
    }

    private static void firstMinusSecond() {
        // 50000 * (X - R) / (X + R) = 5000 and -5000: no overload, both readings are limited
        C.due("the greatest", Check.bridge("G000900010+0000x1100").pair(), 1000);
        C.due("the least", Check.bridge("G001100010+0000x0900").pair(), -1000);
        C.due("in balance", Check.bridge("G001100010+0000x1100").pair(), 0);
        // an offset is in both readings
        C.due("with an offset", Check.bridge("G221000103+5000x1500").pair(), 150 - -50);
    }

    private static void alone(String text, int result, int presses) {
        MirrorBridge x = Check.bridge(text);
        C.due("pair() of " + text, x.pair(), result);
        C.due("presses of " + text, x.about(14), presses);
        C.due("readings of " + text, x.about(13), presses);
        C.due("clock of " + text, x.about(9), presses);
    }

    private static void firstAlone() {
        // the raw deflection of the first press is 5000, 5001, -5000, -5001
        alone("G000900010+0000x1100", 1000, 2);
        alone("G000900010+0100x1100", 500, 1);
        alone("G001100010+0000x0900", -1000, 2);
        alone("G001100010-0100x0900", -500, 1);
        // the second press overloads, and there is a second reading all the same
        alone("G000900010-0100x1100", 1000, 2);
        alone("G001100010+0100x0900", -1000, 2);
        C.due("sticks at the second press", sticksAfterPair("G000900010-0100x1100"), 1);
        C.due("sticks at the second press", sticksAfterPair("G001100010+0100x0900"), 1);
        C.due("does not stick", sticksAfterPair("G000900010+0000x1100"), 0);
    }

    private static int sticksAfterPair(String text) {
        MirrorBridge x = Check.bridge(text);
        x.pair();
        return x.about(12);
    }

    private static void pairRefused() {
        C.due("pair() when it is free", Scene.after(loaded(COARSE)).pair(), 500);
        C.refusedAfter("pair() when it sticks", STATE, stuck(), MirrorBridge::pair);
        C.refusedAfter("pair() when it stuck at a second press", STATE,
                Scene.then(loaded("G000900010-0100x1100"), MirrorBridge::pair), MirrorBridge::pair);
    }

    private static void ticks() {
        Scene.Calls warm = Scene.then(loaded("G221500993-0320x1500"), x -> x.press(false));
        C.due("pause(1)", Scene.after(warm).pause(1), -3 + 17);
        C.due("pause(200)", Scene.after(warm).pause(200), -3);
        C.due("clock after pause(1)", Scene.after(Scene.then(warm, x -> x.pause(1))).about(9), 2);
        C.due("clock after pause(200)", Scene.after(Scene.then(warm, x -> x.pause(200))).about(9), 201);
        for (int m : new int[] {0, 201, -1, Integer.MIN_VALUE, Integer.MAX_VALUE}) {
            C.refusedAfter("pause(" + m + ")", ARGUMENT, warm, x -> x.pause(m));
        }
    }

    private static void offsetThen() {
        MirrorBridge x = Check.bridge("G221500993-0320x1500");
        x.press(false);
        // 99, 89, 80, 71: 19.8, 17.8, 16, 14.2
        C.due("offset", x.about(8), -3 + 19);
        C.due("pause(1)", x.pause(1), -3 + 17);
        C.due("pause(2)", x.pause(2), -3 + 14);
        C.due("offset", x.about(8), -3 + 14);
    }

    // ---- set

    private static void range(int what, int least, int greatest, int first) {
        MirrorBridge x = new MirrorBridge();
        C.due("set(" + what + ", " + least + ")", x.set(what, least), first);
        C.due("about(" + what + ")", x.about(what), least);
        C.due("set(" + what + ", " + greatest + ")", x.set(what, greatest), least);
        C.due("about(" + what + ")", x.about(what), greatest);
        // the other numbers stay
        x.set(what, first);
        C.allAbout("the number set back", x, 2, 2, 1000, 10, 3, 0, 4, 0, 0, 0, 1, 0, 0, 0, 0, 0);
        for (int v : new int[] {least - 1, greatest + 1, Integer.MIN_VALUE, Integer.MAX_VALUE}) {
            C.refusedAfter("set(" + what + ", " + v + ")", ARGUMENT, loaded(USUAL), y -> y.set(what, v));
        }
    }

    private static void previousNumber() {
        MirrorBridge x = Check.bridge("G123456781-4719x1234");
        int[] numbers = {1, 2, 3456, 78, 1, -47, 19};
        for (int what = 0; what <= 6; what++) {
            C.due("set(" + what + ")", x.set(what, 1), numbers[what]);
            C.due("set(" + what + ") again", x.set(what, 2), 1);
            C.due("set(" + what + ") to the same", x.set(what, 2), 2);
        }
    }

    private static void whatOutOfRange() {
        for (int what : new int[] {-1, 7, 8, 12, 15, Integer.MIN_VALUE, Integer.MAX_VALUE}) {
            for (int v : new int[] {0, 1}) {
                C.refusedAfter("set(" + what + ", " + v + ")", ARGUMENT, loaded(USUAL), x -> x.set(what, v));
            }
        }
        C.refusedAfter("set(7, -1)", ARGUMENT, loaded(USUAL), x -> x.set(7, -1));
        C.due("set(0, 1)", Check.bridge(USUAL).set(0, 1), 2);
        C.due("set(6, 1)", Check.bridge(USUAL).set(6, 1), 4);
    }

    // ---- choose, add

    private static void wasInIt() {
        MirrorBridge x = Check.bridge(USUAL);
        C.due("choose(1)", x.choose(1), 0);
        C.due("choose(1) again", x.choose(1), 1);
        C.due("choose(0)", x.choose(0), 1);
    }

    private static Scene.Calls unknowns(int n) {
        return x -> {
            while (x.about(10) < n) {
                x.add(100 * x.about(10));
            }
        };
    }

    private static void noSuchUnknown() {
        for (int n = 1; n <= 6; n++) {
            int last = n - 1;
            C.due("choose(" + last + ") of " + n, Scene.after(unknowns(n)).choose(last), 0);
            for (int i : new int[] {-1, n, n + 1, Integer.MIN_VALUE, Integer.MAX_VALUE}) {
                C.refusedAfter("choose(" + i + ") of " + n, INDEX, unknowns(n), x -> x.choose(i));
            }
        }
        // one that was there ahead of an undo() is there no more
        C.refusedAfter("choose(1) of one taken back", INDEX, Scene.then(unknowns(2), MirrorBridge::undo),
                x -> x.choose(1));
    }

    private static void ohms() {
        for (int ohms : new int[] {1, 9999}) {
            MirrorBridge x = new MirrorBridge();
            x.add(ohms);
            x.choose(1);
            C.due("N with " + ohms, x.bridge(0), 100 * ohms - 100000);
        }
        for (int ohms : new int[] {0, 10000, -1, Integer.MIN_VALUE, Integer.MAX_VALUE}) {
            C.refusedAfter("add(" + ohms + ")", ARGUMENT, x -> { }, x -> x.add(ohms));
        }
    }

    private static void itsNumber() {
        MirrorBridge x = new MirrorBridge();
        for (int i = 1; i <= 5; i++) {
            C.due("add(7)", x.add(7), i);
            C.due("the one in the bridge", x.about(11), 0);
        }
        x.undo();
        C.due("add(7) after undo()", x.add(7), 5);
    }

    private static void sixUnknowns() {
        C.due("the sixth", Scene.after(unknowns(5)).add(7), 5);
        C.refusedAfter("a seventh", STATE, unknowns(6), x -> x.add(1));
        C.refusedAfter("a seventh", STATE, unknowns(6), x -> x.add(9999));
        C.refusedAfter("a seventh behind a text of six", STATE,
                loaded("G221000103+0004x0001x0002x0003x0004x0005x0006"), x -> x.add(7));
        C.due("a sixth behind a text of five",
                Scene.after(loaded("G221000103+0004x0001x0002x0003x0004x0005")).add(7), 5);
    }

    private static void ohmsFirst() {
        for (int ohms : new int[] {0, 10000}) {
            C.refusedAfter("a seventh of " + ohms, ARGUMENT, unknowns(6), x -> x.add(ohms));
        }
    }

    // ---- free

    private static void fiveTicks() {
        MirrorBridge x = Scene.after(stuck());
        x.free();
        // 10, 8, 7, 6, 5, 4
        C.due("warmth", x.about(7), 4);
        C.due("clock", x.about(9), 6);
        x.free();
        C.due("warmth when it was free", x.about(7), 0);
        C.due("clock when it was free", x.about(9), 11);
        MirrorBridge cold = new MirrorBridge();
        cold.free();
        C.due("warmth of a new object", cold.about(7), 0);
        C.due("clock of a new object", cold.about(9), 5);
    }

    private static void stuckOrFree() {
        MirrorBridge x = Scene.after(stuck());
        C.due("free() when it sticks", x.free(), 1);
        C.due("sticks then", x.about(12), 0);
        C.due("free() when it is free", x.free(), 0);
        C.due("sticks then", x.about(12), 0);
        C.due("free() of a new object", new MirrorBridge().free(), 0);
    }

    // ---- balance

    /** The R of each pair, from the first one; at most ten pairs. */
    private static void pairs(String text, int... due) {
        MirrorBridge x = Check.bridge(text);
        x.balance();
        C.due("presses of balance() of " + text, x.about(14), 2 * due.length);
        for (int k = 0; k < due.length; k++) {
            int j = 2 * (due.length - 1 - k);
            C.due("R of the pair " + k, x.told(j, 2), due[k]);
            C.due("R of the pair " + k, x.told(j + 1, 2), due[k]);
            C.due("way of the first press", x.told(j + 1, 1), 1);
            C.due("way of the second press", x.told(j, 1), -1);
        }
    }

    private static void withoutAPair() {
        // X = 1: the pair with R = 0 would have a result above 0, and is not made
        pairs("G229999011+0000x0001", 1000, 100, 10, 1, 2);
        // X = 1 with Q / P = 1/1000: every pair is below 0, and R is 0 in the end
        MirrorBridge x = Check.bridge("G309999012+0000x0001");
        C.due("balance()", x.balance(), 0);
        C.due("presses", x.about(14), 8);
        pairs("G309999012+0000x0001", 1000, 100, 10, 1);
    }

    private static void decades() {
        pairs("G220000011+0000x1111", 1000, 2000, 1100, 1200, 1110, 1120, 1111, 1112);
        pairs("G220000011+0000x0203", 1000, 100, 200, 300, 210, 201, 202, 203, 204);
    }

    private static void atMost() {
        // 9 pairs a decade; 10000, 9000 + 1000 and so on are not tried
        MirrorBridge x = Check.bridge("G220000011+0000x9999");
        C.due("balance()", x.balance(), 9999);
        C.due("presses", x.about(14), 72);
        C.due("R of the last pair", x.told(0, 2), 9999);
        C.due("R of the pair ahead of it", x.told(2, 2), 9998);
        C.due("R of the first of the last ten pairs", x.told(19, 2), 9990);
        // 9990 is tried, 9990 + 10 is not; with 9994 the deflection is -10.008 / 10, with 9993 it is 0
        MirrorBridge y = Check.bridge("G220000011+0000x9990");
        C.due("balance()", y.balance(), 9993);
        C.due("presses", y.about(14), 2 * (9 + 9 + 9 + 4));
        C.due("R of the last pair", y.told(0, 2), 9994);
        C.due("R of the first pair of the decade 1", y.told(7, 2), 9991);
        C.due("R of the pair ahead of it", y.told(8, 2), 9990);
    }

    private static void atLeastZero() {
        // in balance the result is 0 if the offset is the same for both presses: 6 * 4 * 3 = 72, 7 * 4 * 3 = 84
        MirrorBridge same = Check.bridge("G220000042+0003x0001");
        C.due("balance() with a result of 0", same.balance(), 1);
        C.due("presses", same.about(14), 10);
        // 0 and 1: 6 * 5 * 3 = 90, 7 * 5 * 3 = 105, and the result is -1
        MirrorBridge other = Check.bridge("G220000052+0003x0001");
        C.due("balance() with a result of -1", other.balance(), 0);
        C.due("presses", other.about(14), 8);
        C.told(other, 0, 1, -1, 1, 7);
        C.told(other, 1, 0, 1, 1, 6);
    }

    private static void takenBack() {
        // the last increase of each decade alone is taken back
        MirrorBridge x = Check.bridge("G220000011+0000x1111");
        C.due("balance()", x.balance(), 1111);
        C.due("R", x.about(2), 1111);
        C.due("R of the last pair", x.told(0, 2), 1112);
    }

    private static void sticks(String text, int r, int presses) {
        MirrorBridge x = Check.bridge(text);
        C.due("balance() of " + text, x.balance(), r);
        C.due("R", x.about(2), r);
        C.due("presses", x.about(14), presses);
        C.due("sticks", x.about(12), 1);
        C.due("overloads", x.about(15), 1);
        C.due("R of the last reading", x.told(0, 2), r);
        C.refusedAfter("balance() again", STATE, Scene.then(loaded(text), MirrorBridge::balance), MirrorBridge::balance);
    }

    private static void endsThere() {
        // at the first press of the first pair: 200000 * 500 / 2500 / 2
        sticks(COARSE, 1000, 1);
        // at the second pair: 4995, -12073
        sticks("G000000010+0000x1222", 2000, 3);
        // at the decade 100: -4329, 24242
        sticks("G010000010+0000x0050", 100, 3);
        // at the decade 10: -1639, -166, 7655
        sticks("G010000021+0000x0009", 10, 5);
    }

    private static void whateverItsResult() {
        // the first press is below -5000, and its reading alone would take R back
        sticks("G005000100+0004x0001", 1000, 1);
        // -4990 - 11: the first press; -4990 + 11: the second one is 5001, and the result -1000
        sticks("G220000011-1100x0001", 1000, 1);
        sticks("G220000011+1100x0001", 1000, 2);
        MirrorBridge x = Check.bridge("G220000011+1000x0001");
        C.due("balance() with -4980 and 5000", x.balance(), 1);
        C.due("sticks with -4980 and 5000", x.about(12), 0);
        MirrorBridge y = Check.bridge("G220000011-1000x0001");
        C.due("balance() with -5000 and 4980", y.balance(), 1);
        C.due("sticks with -5000 and 4980", y.about(12), 0);
    }

    private static void returnsR() {
        for (String text : new String[] {"G220000011+0000x1111", COARSE, "G309999012+0000x0001"}) {
            MirrorBridge x = Check.bridge(text);
            C.due("balance() of " + text, x.balance(), x.about(2));
        }
    }

    private static void balanceRefused() {
        C.due("balance() when it is free", Scene.after(loaded(COARSE)).balance(), 1000);
        C.refusedAfter("balance() when it sticks", STATE, stuck(), MirrorBridge::balance);
        // R does not even become 0
        MirrorBridge x = Scene.after(stuck());
        C.refused(x, "balance() when it sticks", STATE, x::balance);
        C.due("R", x.about(2), 1000);
    }
}
