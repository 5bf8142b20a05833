/** Promises 6 to 8: about, told, bridge. */
final class ViewTest {
    private static final Check C = new Check("ViewTest");

    public static void main(String[] args) {
        about();
        told();
        ledgerOfTwenty();
        bridge();
        bridgeRounds();
        C.end();
    }

    private static void about() {
        MirrorBridge x = Check.bridge("G130047052-5010x0004x0005");
        x.choose(1);
        x.add(77);
        // with E = 99 and no shunt the press overloads; the warmth is 99 then
        x.set(3, 99);
        x.set(4, 0);
        x.press(false);
        // -50 + 99 * 10 / 100 = -50 + 9
        C.allAbout("a bridge in use", x, 1, 3, 47, 99, 0, -50, 10, 99, -41, 1, 3, 1, 1, 1, 1, 1);
        x.free();
        // 99, 89, 80, 71, 63, 56
        C.allAbout("a bridge set free", x, 1, 3, 47, 99, 0, -50, 10, 56, -45, 6, 3, 1, 0, 1, 1, 1);
        C.refused(x, "about(-1)", IllegalArgumentException.class, () -> x.about(-1));
        C.refused(x, "about(16)", IllegalArgumentException.class, () -> x.about(16));
        C.refused(x, "about(MIN)", IllegalArgumentException.class, () -> x.about(Integer.MIN_VALUE));
        C.refused(x, "about(MAX)", IllegalArgumentException.class, () -> x.about(Integer.MAX_VALUE));
    }

    private static void told() {
        MirrorBridge x = new MirrorBridge();
        int none = MirrorBridge.NONE;
        C.told(x, 0, none, none, none, none);
        x.press(false);
        x.pause(2);
        x.set(2, 3000);
        x.press(true);
        // N / D = (1500 - 3000) / (2 * 4500) = -1/6, so that the true deflection is -166
        C.told(x, 0, 166, -1, 3000, 3);
        C.told(x, 1, 100, 1, 1000, 0);
        C.told(x, 2, none, none, none, none);
        C.told(x, 19, none, none, none, none);
        C.told(x, 20, none, none, none, none);
        C.told(x, Integer.MAX_VALUE, none, none, none, none);
        C.refused(x, "told(-1, 0)", IllegalArgumentException.class, () -> x.told(-1, 0));
        C.refused(x, "told(MIN, 0)", IllegalArgumentException.class, () -> x.told(Integer.MIN_VALUE, 0));
        C.refused(x, "told(0, -1)", IllegalArgumentException.class, () -> x.told(0, -1));
        C.refused(x, "told(0, 4)", IllegalArgumentException.class, () -> x.told(0, 4));
        C.refused(x, "told(5, 4)", IllegalArgumentException.class, () -> x.told(5, 4));
    }

    private static void ledgerOfTwenty() {
        MirrorBridge x = Check.bridge("G220000013+0000x0500");
        for (int i = 0; i < 53; i++) {
            x.set(2, i);
            x.press(i % 3 == 0);
            C.due("readings in the ledger", x.about(13), Math.min(20, i + 1));
            C.due("presses", x.about(14), i + 1);
        }
        for (int j = 0; j < 20; j++) {
            int i = 52 - j;
            C.due("way of told(" + j + ")", x.told(j, 1), i % 3 == 0 ? -1 : 1);
            C.due("R of told(" + j + ")", x.told(j, 2), i);
            C.due("clock of told(" + j + ")", x.told(j, 3), i);
        }
        C.told(x, 20, MirrorBridge.NONE, MirrorBridge.NONE, MirrorBridge.NONE, MirrorBridge.NONE);
    }

    private static void bridge(MirrorBridge x, int... due) {
        for (int what = 0; what < due.length; what++) {
            C.due("bridge(" + what + ")", x.bridge(what), due[what]);
        }
    }

    private static void bridge() {
        MirrorBridge x = new MirrorBridge();
        bridge(x, 50000, 500000, 100, 100, 100 - 200);
        x.set(5, -7);
        x.pause(1);
        bridge(x, 50000, 500000, 100, 93, -107);
        x.press(true);
        x.set(6, 20);
        // the warmth is 10, the drift 20
        bridge(x, 50000, 500000, 100, 95, -105);
        C.refused(x, "bridge(-1)", IllegalArgumentException.class, () -> x.bridge(-1));
        C.refused(x, "bridge(5)", IllegalArgumentException.class, () -> x.bridge(5));

        // the raw deflection has no limit
        bridge(Check.bridge("G000000990-5020x0001"), 1, 2, 4950000, 4949950, -4950050);
        bridge(Check.bridge("G030000990+0000x9999"), 9999000, 1001 * 9999, 9890109, 9890109, -9890109);
        bridge(Check.bridge("G309999990+5000x0001"), 1 - 9999000, 1001 * 10000, -9889119, -9889069, 9889169);
    }

    private static void bridgeRounds() {
        // 100000 * 5 * 3530 / 51510 = 34265.19
        bridge(Check.bridge("G130047050+0000x0004"), 3530, 51510, 34265);
        bridge(Check.bridge("G130047051+0000x0004"), 3530, 51510, 3426);
        bridge(Check.bridge("G130047052+0000x0004"), 3530, 51510, 342);
        bridge(Check.bridge("G130047053+0000x0004"), 3530, 51510, 34);
        // -100000 * 20 * 148510 / 181390 = -1637466.23: toward 0
        bridge(Check.bridge("G211500200+0000x0149"), -148510, 181390, -1637466, -1637466, 1637466);
        bridge(Check.bridge("G211500201+0000x0149"), -148510, 181390, -163746, -163746, 163746);
        bridge(Check.bridge("G211500202+0000x0149"), -148510, 181390, -16374, -16374, 16374);
        bridge(Check.bridge("G211500203+0000x0149"), -148510, 181390, -1637, -1637, 1637);
    }
}
