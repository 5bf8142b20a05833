/**
 * The boundaries of the terms THE BRIDGE, WARMTH AND OFFSET and LEDGER, and of promises 1 and 6 to 8
 * that show them: a test for each sentence, on both sides of its boundary.
 */
final class BridgeEdgesTest {
    private static final Check C = new Check("BridgeEdgesTest");
    private static final int NONE = MirrorBridge.NONE;
    private static final Class<?> ARGUMENT = IllegalArgumentException.class;

    public static void main(String[] args) {
        bridge();
        warmthAndOffset();
        overloads();
        ledger();
        promises();
        C.end();
    }

    private static void bridge() {
        String place = "THE BRIDGE";
        C.sentence(place, "each of which is 1, 10, 100 or 1000, told by its index 0 to 3", BridgeEdgesTest::arms);
        C.sentence(place, "at first both have the index 2", BridgeEdgesTest::firstArms);
        C.sentence(place, "The box has R ohms, 0 to 9999, at first 1000.", BridgeEdgesTest::box);
        C.sentence(place, "There are up to 6 unknown resistors, numbered from 0", BridgeEdgesTest::sixUnknowns);
        C.sentence(place, "with X ohms from 1 to 9999", BridgeEdgesTest::ohms);
        C.sentence(place, "The battery has E units, 1 to 99, at first 10.", BridgeEdgesTest::battery);
        C.sentence(place, "The shunt has the index 0 to 3, at first 3", BridgeEdgesTest::shunt);
        C.sentence(place, "it divides by 10 to the power of its index", BridgeEdgesTest::shuntDivides);
        C.sentence(place, "A new object has one unknown resistor with 1500 ohms.", BridgeEdgesTest::firstUnknown);
        C.sentence(place, "With N = Q * X - P * R and D = (P + Q) * (X + R)", BridgeEdgesTest::extremes);
        C.sentence(place, "the true deflection is 100000 * E * N / D", BridgeEdgesTest::greatestDeflections);
        C.sentence(place, "(each division rounded toward 0)", BridgeEdgesTest::towardZero);
        C.sentence(place, "with the opposite sign if the key is reversed", BridgeEdgesTest::oppositeSign);
        C.sentence(place, "The raw deflection is that plus the offset.", BridgeEdgesTest::offsetBehindTheShunt);
        C.sentence(place, "A reading is the raw deflection, limited to -500 to 500.", BridgeEdgesTest::limits);
    }

    private static void warmthAndOffset() {
        String place = "WARMTH AND OFFSET";
        C.sentence(place, "The warmth is a whole number, at first 0.", BridgeEdgesTest::firstWarmth);
        C.sentence(place, "There are a steady offset, -50 to 50, at first 0", BridgeEdgesTest::steady);
        C.sentence(place, "a drift, 0 to 20, at first 4", BridgeEdgesTest::drift);
        C.sentence(place, "warmth * drift / 100, rounded down", BridgeEdgesTest::offset);
        C.sentence(place, "A press with the battery E, whichever way, lasts one tick", BridgeEdgesTest::oneTick);
        C.sentence(place, "first the reading is made, with the warmth ahead of it", BridgeEdgesTest::warmthAhead);
        C.sentence(place, "then the warmth increases by E, to at most 9999", BridgeEdgesTest::greatestWarmth);
        C.sentence(place, "the clock, at first 0, increases by 1", BridgeEdgesTest::clock);
        C.sentence(place, "decreases the warmth by warmth / 10 + 1, the division rounded down, but not below 0",
                BridgeEdgesTest::cooling);
    }

    private static void overloads() {
        String place = "WARMTH AND OFFSET";
        C.sentence(place, "If the raw deflection of a press is below -5000", BridgeEdgesTest::overloadBelow);
        C.sentence(place, "or above 5000, the galvanometer is overloaded", BridgeEdgesTest::overloadAbove);
        C.sentence(place, "its suspension sticks, the reading is still made", BridgeEdgesTest::stillMade);
        C.sentence(place, "no further press is possible until it is freed", BridgeEdgesTest::untilFreed);
    }

    private static void ledger() {
        String place = "LEDGER";
        C.sentence(place, "The ledger has the last 20 readings", BridgeEdgesTest::lastTwenty);
        C.sentence(place, "each with its value, the way of the key (1 forward, -1 reversed), R, and the clock ahead of it",
                BridgeEdgesTest::fourNumbers);
    }

    private static void promises() {
        C.sentence("Promise 1", "Creates the bridge that is described above.", BridgeEdgesTest::newObject);
        C.sentence("Promise 6", "if what is not 0 to 15", BridgeEdgesTest::about);
        C.sentence("Promise 6", "1 if the galvanometer sticks, 0 if it is free", BridgeEdgesTest::aboutSticking);
        C.sentence("Promise 6", "the number of presses so far; 15: overloads so far", BridgeEdgesTest::soFar);
        C.sentence("Promise 7", "if j is negative, or what is not 0 to 3", BridgeEdgesTest::toldRanges);
        C.sentence("Promise 7", "NONE if the ledger has not so many readings", BridgeEdgesTest::notSoManyReadings);
        C.sentence("Promise 8", "if what is not 0 to 4", BridgeEdgesTest::bridgeRange);
    }

    /** set() allows the least and the greatest number, and neither neighbour of them. */
    private static void range(int what, int least, int greatest) {
        for (int v : new int[] {least, greatest}) {
            MirrorBridge x = new MirrorBridge();
            int first = x.about(what);
            C.due("set(" + what + ", " + v + ")", x.set(what, v), first);
            C.due("about(" + what + ")", x.about(what), v);
        }
        for (int v : new int[] {least - 1, greatest + 1}) {
            C.refusedAfter("set(" + what + ", " + v + ")", ARGUMENT, x -> { }, x -> x.set(what, v));
        }
    }

    // ---- the bridge

    private static void arms() {
        int[] powers = {1, 10, 100, 1000};
        for (int p = 0; p <= 3; p++) {
            for (int q = 0; q <= 3; q++) {
                MirrorBridge x = new MirrorBridge();
                x.set(0, p);
                x.set(1, q);
                C.due("N with " + p + ", " + q, x.bridge(0), powers[q] * 1500 - powers[p] * 1000);
                C.due("D with " + p + ", " + q, x.bridge(1), (powers[p] + powers[q]) * 2500);
            }
        }
        range(0, 0, 3);
        range(1, 0, 3);
    }

    private static void firstArms() {
        C.due("about(0)", new MirrorBridge().about(0), 2);
        C.due("about(1)", new MirrorBridge().about(1), 2);
    }

    private static void box() {
        C.due("about(2)", new MirrorBridge().about(2), 1000);
        range(2, 0, 9999);
        MirrorBridge x = new MirrorBridge();
        x.set(2, 0);
        C.due("N with R = 0", x.bridge(0), 150000);
        C.due("D with R = 0", x.bridge(1), 200 * 1500);
        x.set(2, 9999);
        C.due("N with R = 9999", x.bridge(0), 150000 - 999900);
        C.due("D with R = 9999", x.bridge(1), 200 * 11499);
    }

    private static void fill(MirrorBridge x, int unknowns) {
        while (x.about(10) < unknowns) {
            x.add(x.about(10));
        }
    }

    private static void sixUnknowns() {
        for (int n = 1; n <= 6; n++) {
            int unknowns = n;
            MirrorBridge x = Scene.after(y -> fill(y, unknowns));
            C.due("unknown resistors", x.about(10), n);
            C.due("choose(" + (n - 1) + ") of " + n, x.choose(n - 1), 0);
            C.due("the one in the bridge", x.about(11), n - 1);
            C.refusedAfter("choose(" + n + ") of " + n, IndexOutOfBoundsException.class, y -> fill(y, unknowns),
                    y -> y.choose(unknowns));
            C.refusedAfter("choose(-1) of " + n, IndexOutOfBoundsException.class, y -> fill(y, unknowns),
                    y -> y.choose(-1));
        }
        C.due("the sixth", Scene.after(y -> fill(y, 5)).add(7), 5);
        C.refusedAfter("a seventh", IllegalStateException.class, y -> fill(y, 6), y -> y.add(7));
    }

    private static void ohms() {
        for (int ohms : new int[] {1, 9999}) {
            MirrorBridge x = new MirrorBridge();
            C.due("add(" + ohms + ")", x.add(ohms), 1);
            x.choose(1);
            C.due("N with " + ohms, x.bridge(0), 100 * ohms - 100000);
        }
        for (int ohms : new int[] {0, 10000}) {
            C.refusedAfter("add(" + ohms + ")", ARGUMENT, x -> { }, x -> x.add(ohms));
        }
    }

    private static void battery() {
        C.due("about(3)", new MirrorBridge().about(3), 10);
        range(3, 1, 99);
        MirrorBridge x = new MirrorBridge();
        x.set(4, 0);
        x.set(3, 1);
        C.due("true deflection with E = 1", x.bridge(2), 10000);
        x.set(3, 99);
        C.due("true deflection with E = 99", x.bridge(2), 990000);
    }

    private static void shunt() {
        C.due("about(4)", new MirrorBridge().about(4), 3);
        range(4, 0, 3);
    }

    private static void shuntDivides() {
        int[] due = {100000, 10000, 1000, 100};
        for (int index = 0; index <= 3; index++) {
            MirrorBridge x = new MirrorBridge();
            x.set(4, index);
            C.due("true deflection with the shunt " + index, x.bridge(2), due[index]);
        }
    }

    private static void firstUnknown() {
        MirrorBridge x = new MirrorBridge();
        C.due("about(10)", x.about(10), 1);
        C.due("about(11)", x.about(11), 0);
        C.due("N", x.bridge(0), 100 * 1500 - 100 * 1000);
        C.due("D", x.bridge(1), 200 * 2500);
    }

    private static void nAndD(String text, int n, int d) {
        MirrorBridge x = Check.bridge(text);
        C.due("N of " + text, x.bridge(0), n);
        C.due("D of " + text, x.bridge(1), d);
    }

    private static void extremes() {
        nAndD("G030000990+0000x9999", 9999000, 1001 * 9999);
        nAndD("G309999990+0000x0001", 1 - 9999000, 1001 * 10000);
        nAndD("G339999990+0000x9999", 0, 2000 * 19998);
        nAndD("G000000990+0000x0001", 1, 2);
        nAndD("G000001990+0000x0001", 0, 4);
        nAndD("G000002990+0000x0001", -1, 6);
    }

    private static void greatestDeflections() {
        // 100000 * 99 * 9999000 does not go into an int
        C.due("the greatest", Check.bridge("G030000990+0000x9999").bridge(2), 9890109);
        C.due("the least", Check.bridge("G309999990+0000x0001").bridge(2), -9889119);
        C.due("in balance", Check.bridge("G339999990+0000x9999").bridge(2), 0);
        C.due("one ohm above balance", Check.bridge("G000001990+0000x0002").bridge(2), 1650000);
        C.due("one ohm below balance", Check.bridge("G000002990+0000x0001").bridge(2), -1650000);
    }

    private static void towardZero() {
        // 50000 * (X - R) / (X + R): exactly 1000, then 994.9; the other way round below 0
        C.due("1000", Check.bridge("G000049010+0000x0051").bridge(2), 1000);
        C.due("994.9", Check.bridge("G004901010+0000x5100").bridge(2), 994);
        C.due("-1000", Check.bridge("G000051010+0000x0049").bridge(2), -1000);
        C.due("-994.9", Check.bridge("G005100010+0000x4901").bridge(2), -994);
        C.due("1000 / 1000", Check.bridge("G000049013+0000x0051").bridge(2), 1);
        C.due("994 / 1000", Check.bridge("G004901013+0000x5100").bridge(2), 0);
        C.due("-1000 / 1000", Check.bridge("G000051013+0000x0049").bridge(2), -1);
        C.due("-994 / 1000", Check.bridge("G005100013+0000x4901").bridge(2), 0);
        C.due("-994 / 10", Check.bridge("G005100011+0000x4901").bridge(2), -99);
        C.due("-994 / 100", Check.bridge("G005100012+0000x4901").bridge(2), -9);
    }

    private static void oppositeSign() {
        // the offset keeps its sign, and the key reversed rounds toward 0 too
        MirrorBridge x = Check.bridge("G005100010-0700x4901");
        C.due("forward", x.bridge(3), -994 - 7);
        C.due("reversed", x.bridge(4), 994 - 7);
        MirrorBridge y = Check.bridge("G004901010+0700x5100");
        C.due("forward", y.bridge(3), 994 + 7);
        C.due("reversed", y.bridge(4), -994 + 7);
        C.due("press(false)", y.press(false), 500);
        C.due("press(true)", y.press(true), -500);
    }

    private static void offsetBehindTheShunt() {
        int[] due = {100000, 10000, 1000, 100};
        for (int index = 0; index <= 3; index++) {
            MirrorBridge x = new MirrorBridge();
            x.set(4, index);
            x.set(5, 50);
            C.due("forward with the shunt " + index, x.bridge(3), due[index] + 50);
            C.due("reversed with the shunt " + index, x.bridge(4), -due[index] + 50);
            x.set(5, -50);
            C.due("forward with the shunt " + index, x.bridge(3), due[index] - 50);
            C.due("reversed with the shunt " + index, x.bridge(4), -due[index] - 50);
        }
    }

    private static void reading(int steady, boolean reversed, int raw, int due) {
        // the true deflection with E = 50 is 500
        MirrorBridge x = new MirrorBridge();
        x.set(3, 50);
        x.set(5, steady);
        C.due("raw deflection", x.bridge(reversed ? 4 : 3), raw);
        C.due("reading of " + raw, x.press(reversed), due);
        C.due("told(0, 0) of " + raw, x.told(0, 0), due);
    }

    private static void limits() {
        reading(-1, false, 499, 499);
        reading(0, false, 500, 500);
        reading(1, false, 501, 500);
        reading(1, true, -499, -499);
        reading(0, true, -500, -500);
        reading(-1, true, -501, -500);
        reading(50, false, 550, 500);
        reading(-50, true, -550, -500);
    }

    // ---- warmth and offset

    private static void firstWarmth() {
        C.due("about(7)", new MirrorBridge().about(7), 0);
    }

    private static void steady() {
        C.due("about(5)", new MirrorBridge().about(5), 0);
        range(5, -50, 50);
        for (int steady : new int[] {-50, 50}) {
            MirrorBridge x = new MirrorBridge();
            x.set(5, steady);
            C.due("offset", x.about(8), steady);
        }
    }

    private static void drift() {
        C.due("about(6)", new MirrorBridge().about(6), 4);
        range(6, 0, 20);
        MirrorBridge x = new MirrorBridge();
        x.set(3, 99);
        x.press(false);
        x.set(6, 0);
        C.due("offset with the drift 0", x.about(8), 0);
        x.set(6, 20);
        C.due("offset with the drift 20", x.about(8), 19);
    }

    /** Sets the warmth of a new object, by presses with a battery that fits. */
    private static void warm(MirrorBridge x, int warmth) {
        x.set(2, 1500);
        x.set(3, 99);
        for (int i = 0; i < warmth / 99; i++) {
            x.press(i % 2 == 0);
        }
        if (warmth % 99 > 0) {
            x.set(3, warmth % 99);
            x.press(false);
        }
        x.set(2, 1000);
        x.set(3, 10);
    }

    private static void offset(int warmth, int drift, int steady, int due) {
        MirrorBridge x = Scene.after(y -> warm(y, warmth));
        x.set(6, drift);
        x.set(5, steady);
        String with = " with the warmth " + warmth + ", the drift " + drift + ", the steady offset " + steady;
        C.due("offset" + with, x.about(8), due);
        C.due("raw deflection" + with, x.bridge(3), 100 + due);
    }

    private static void offset() {
        offset(0, 20, 0, 0);
        offset(99, 1, 0, 0);
        offset(100, 1, 0, 1);
        offset(101, 1, 0, 1);
        offset(199, 1, 0, 1);
        offset(200, 1, 0, 2);
        offset(4, 20, 0, 0);
        offset(5, 20, 0, 1);
        offset(9, 20, 0, 1);
        offset(10, 20, 0, 2);
        // below 0 it is rounded down, not toward 0: -1 + 0.99
        offset(99, 1, -1, -1);
        offset(100, 1, -1, 0);
        offset(1, 1, -50, -50);
        offset(199, 1, -50, -49);
        offset(9999, 20, 50, 2049);
        offset(9999, 1, 0, 99);
        offset(9999, 0, -50, -50);
    }

    private static void oneTick() {
        for (int e : new int[] {1, 99}) {
            for (boolean reversed : new boolean[] {false, true}) {
                MirrorBridge x = new MirrorBridge();
                x.set(3, e);
                x.press(reversed);
                C.due("clock after a press with E = " + e, x.about(9), 1);
                C.due("warmth after a press with E = " + e, x.about(7), e);
            }
        }
    }

    private static void warmthAhead() {
        MirrorBridge x = Check.bridge("G221500993+0020x1500");
        C.due("the first reading", x.press(false), 0);
        C.due("the second reading", x.press(false), 19);
        // 198 * 20 / 100 = 39.6
        C.due("the third reading", x.press(true), 39);
    }

    private static void greatestWarmth() {
        MirrorBridge x = Scene.after(y -> warm(y, 9997));
        x.set(3, 1);
        C.due("warmth", x.about(7), 9997);
        x.press(false);
        C.due("warmth", x.about(7), 9998);
        x.press(false);
        C.due("warmth", x.about(7), 9999);
        x.press(true);
        C.due("warmth", x.about(7), 9999);
        for (int e : new int[] {1, 2, 3, 99}) {
            MirrorBridge y = Scene.after(z -> warm(z, 9997));
            y.set(3, e);
            y.press(true);
            C.due("warmth after 9997 and E = " + e, y.about(7), Math.min(9999, 9997 + e));
        }
    }

    private static void clock() {
        MirrorBridge x = new MirrorBridge();
        C.due("about(9)", x.about(9), 0);
        for (int i = 1; i <= 130; i++) {
            x.press(i % 2 == 0);
            C.due("clock", x.about(9), i);
        }
        x.pause(1);
        C.due("clock after a tick of waiting", x.about(9), 131);
    }

    private static void cooling() {
        int[][] pairs = {{0, 0}, {1, 0}, {2, 1}, {8, 7}, {9, 8}, {10, 8}, {11, 9}, {19, 17}, {20, 17}, {21, 18},
            {99, 89}, {100, 89}, {101, 90}, {109, 98}, {110, 98}, {989, 890}, {990, 890}, {9989, 8990}, {9990, 8990},
            {9999, 8999}};
        for (int[] pair : pairs) {
            MirrorBridge x = Scene.after(y -> warm(y, pair[0]));
            int clock = x.about(9);
            C.due("warmth", x.about(7), pair[0]);
            x.pause(1);
            C.due("warmth after " + pair[0], x.about(7), pair[1]);
            C.due("clock", x.about(9), clock + 1);
        }
    }

    // ---- overloads

    /** A press with the true deflection -4990 (forward) and this steady offset. */
    private static void overload(int steady, boolean reversed, int raw, int sticks) {
        MirrorBridge x = Check.bridge("G309999011+0000x9999");
        x.set(5, steady);
        C.due("raw deflection", x.bridge(reversed ? 4 : 3), raw);
        C.due("reading of " + raw, x.press(reversed), raw < 0 ? -500 : 500);
        C.due("sticks after " + raw, x.about(12), sticks);
        C.due("overloads after " + raw, x.about(15), sticks);
    }

    private static void overloadBelow() {
        overload(-9, false, -4999, 0);
        overload(-10, false, -5000, 0);
        overload(-11, false, -5001, 1);
        overload(-50, false, -5040, 1);
    }

    private static void overloadAbove() {
        overload(9, true, 4999, 0);
        overload(10, true, 5000, 0);
        overload(11, true, 5001, 1);
        overload(50, true, 5040, 1);
        // and with the key forward: 50000 * (X - R) / (X + R) = 5000, or 5000 reversed
        MirrorBridge x = Check.bridge("G000900010+0000x1100");
        C.due("raw deflection", x.bridge(3), 5000);
        x.pair();
        C.due("sticks after 5000 and -5000", x.about(12), 0);
        x.set(5, 1);
        x.press(false);
        C.due("sticks after 5001", x.about(12), 1);
        MirrorBridge y = Check.bridge("G000900010-0100x1100");
        y.press(false);
        C.due("sticks after 4999", y.about(12), 0);
        y.press(true);
        C.due("sticks after -5001 reversed", y.about(12), 1);
    }

    private static void stillMade() {
        MirrorBridge x = Check.bridge("G001000100+0904x1500");
        C.due("press(false)", x.press(false), 500);
        C.told(x, 0, 500, 1, 1000, 0);
        C.allAbout("a press that overloads", x, 0, 0, 1000, 10, 0, 9, 4, 10, 9, 1, 1, 0, 1, 1, 1, 1);
    }

    private static void untilFreed() {
        Scene.Calls stuck = x -> {
            Check.write(x, "G001000100+0004x1500");
            x.load();
            x.press(true);
        };
        Scene.Calls later = Scene.then(stuck, x -> {
            // neither waiting nor a bridge in balance sets it free
            x.pause(200);
            x.set(2, 1500);
            x.set(4, 3);
        });
        for (Scene.Calls run : new Scene.Calls[] {stuck, later}) {
            C.refusedAfter("press(false)", IllegalStateException.class, run, x -> x.press(false));
            C.refusedAfter("press(true)", IllegalStateException.class, run, x -> x.press(true));
            C.refusedAfter("pair()", IllegalStateException.class, run, MirrorBridge::pair);
            C.refusedAfter("balance()", IllegalStateException.class, run, MirrorBridge::balance);
            MirrorBridge x = Scene.after(Scene.then(run, MirrorBridge::free));
            C.due("sticks when freed", x.about(12), 0);
            C.due("a press when freed", x.press(true), x.about(2) == 1500 ? 0 : -500);
        }
    }

    // ---- ledger

    /** As many presses; R tells the number of the press. */
    private static void presses(MirrorBridge x, int n) {
        for (int i = 0; i < n; i++) {
            x.set(2, 1400 + i);
            x.press(i % 2 == 1);
        }
    }

    private static void lastTwenty() {
        for (int n : new int[] {0, 1, 19, 20, 21, 39, 40, 41, 60, 61}) {
            MirrorBridge x = Scene.after(y -> presses(y, n));
            int kept = Math.min(20, n);
            C.due("readings in the ledger after " + n, x.about(13), kept);
            if (kept > 0) {
                C.due("R of the latest of " + n, x.told(0, 2), 1400 + n - 1);
                C.due("R of the oldest of " + n, x.told(kept - 1, 2), 1400 + n - kept);
            }
            C.told(x, kept, NONE, NONE, NONE, NONE);
        }
    }

    private static void fourNumbers() {
        MirrorBridge x = new MirrorBridge();
        x.set(2, 0);
        x.press(false);
        x.pause(3);
        x.set(2, 9999);
        x.press(true);
        // 1000 * 1/2; 1000 * -8499 / (2 * 11499) = -369.5, and with the key reversed the other way
        C.told(x, 0, 369, -1, 9999, 4);
        C.told(x, 1, 500, 1, 0, 0);
        x.set(2, 1);
        x.set(3, 11);
        x.press(false);
        // 1100 * 1499 / (2 * 1501) = 549.2: the value is limited
        C.told(x, 0, 500, 1, 1, 5);
        C.told(x, 1, 369, -1, 9999, 4);
    }

    // ---- promises 1 and 6 to 8

    private static void newObject() {
        MirrorBridge x = new MirrorBridge();
        C.allAbout("a new object", x, 2, 2, 1000, 10, 3, 0, 4, 0, 0, 0, 1, 0, 0, 0, 0, 0);
        C.told(x, 0, NONE, NONE, NONE, NONE);
        C.due("the length of the text", x.clearText(), 0);
        C.refusedAfter("undo()", IllegalStateException.class, y -> { }, MirrorBridge::undo);
        C.refusedAfter("restore(0)", IllegalStateException.class, y -> { }, y -> y.restore(0));
        C.refusedAfter("restore(1)", IllegalStateException.class, y -> { }, y -> y.restore(1));
    }

    private static void used(MirrorBridge x) {
        Check.write(x, "G130047052-5010x0004x0005");
        x.load();
        x.choose(1);
        x.press(true);
    }

    private static void about() {
        MirrorBridge x = Scene.after(BridgeEdgesTest::used);
        C.due("about(0)", x.about(0), 1);
        C.due("about(15)", x.about(15), 0);
        for (int what : new int[] {-1, 16}) {
            C.refusedAfter("about(" + what + ")", ARGUMENT, BridgeEdgesTest::used, y -> y.about(what));
        }
    }

    private static void aboutSticking() {
        MirrorBridge x = Check.bridge("G001000100+0004x1500");
        C.due("about(12) ahead of an overload", x.about(12), 0);
        x.press(false);
        C.due("about(12) after an overload", x.about(12), 1);
        x.free();
        C.due("about(12) when freed", x.about(12), 0);
    }

    private static void soFar() {
        // they are not limited to the 20 readings of the ledger
        MirrorBridge x = Check.bridge("G001000010+0004x1500");
        for (int i = 1; i <= 25; i++) {
            x.press(i % 2 == 0);
            x.free();
            C.due("presses", x.about(14), i);
            C.due("overloads", x.about(15), i);
        }
        x.set(4, 3);
        x.pair();
        C.due("presses", x.about(14), 27);
        C.due("overloads", x.about(15), 25);
        C.due("readings", x.about(13), 20);
    }

    private static void toldRanges() {
        MirrorBridge x = Scene.after(BridgeEdgesTest::used);
        // 500000 * 4530 / 52520 / 100 = 431, with the offset -50
        C.told(x, 0, -431 - 50, -1, 47, 0);
        int[][] wrong = {{-1, 0}, {-1, 3}, {0, -1}, {0, 4}, {1, -1}, {1, 4}, {20, 4}, {-1, 4}, {Integer.MIN_VALUE, 0},
            {Integer.MAX_VALUE, 4}};
        for (int[] w : wrong) {
            C.refusedAfter("told(" + w[0] + ", " + w[1] + ")", ARGUMENT, BridgeEdgesTest::used,
                    y -> y.told(w[0], w[1]));
        }
    }

    private static void notSoManyReadings() {
        for (int n : new int[] {0, 1, 2, 19, 20, 21}) {
            MirrorBridge x = Scene.after(y -> presses(y, n));
            int kept = Math.min(20, n);
            for (int what = 0; what <= 3; what++) {
                if (kept > 0) {
                    C.due("whether told(" + (kept - 1) + ", " + what + ") is there",
                            x.told(kept - 1, what) == NONE ? 0 : 1, 1);
                }
                C.due("told(" + kept + ", " + what + ")", x.told(kept, what), NONE);
            }
            C.due("told(MAX, 0)", x.told(Integer.MAX_VALUE, 0), NONE);
        }
    }

    private static void bridgeRange() {
        MirrorBridge x = Scene.after(BridgeEdgesTest::used);
        C.due("bridge(0)", x.bridge(0), 4530);
        // the warmth is 5, the drift 10
        C.due("bridge(4)", x.bridge(4), -431 - 50);
        for (int what : new int[] {-1, 5}) {
            C.refusedAfter("bridge(" + what + ")", ARGUMENT, BridgeEdgesTest::used, y -> y.bridge(what));
        }
    }
}
