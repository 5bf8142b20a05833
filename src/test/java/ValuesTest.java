/** Promises 18 to 25: value, bestR, bestArms, enoughShunt, sensitivity, offsetAfter, waitFor, balanced. */
final class ValuesTest {
    private static final Check C = new Check("ValuesTest");

    public static void main(String[] args) {
        value();
        bestR();
        bestArms();
        enoughShunt();
        sensitivity();
        offsetAfter();
        waitFor();
        balanced();
        C.end();
    }

    /** P and Q by their indices; the answers for the limits 0, 1 and 2. */
    private static void value(int p, int q, int r, int nearest, int smallest, int greatest) {
        MirrorBridge x = new MirrorBridge();
        x.set(0, p);
        x.set(1, q);
        x.set(2, r);
        String bridge = " with P " + p + ", Q " + q + ", R " + r;
        C.due("value(0)" + bridge, x.value(0), nearest);
        C.due("value(1)" + bridge, x.value(1), smallest);
        C.due("value(2)" + bridge, x.value(2), greatest);
    }

    private static void value() {
        value(2, 2, 1000, 1000, 1000, 1000);
        value(2, 2, 0, 0, 0, 0);
        value(0, 1, 4, 0, 1, 0);
        value(0, 1, 5, 1, 1, 0);
        value(0, 1, 14, 1, 2, 1);
        value(0, 1, 15, 2, 2, 1);
        value(0, 1, 20, 2, 2, 2);
        value(0, 3, 499, 0, 1, 0);
        value(0, 3, 500, 1, 1, 0);
        value(0, 3, 1, 0, 1, 0);
        value(0, 3, 9999, 10, 10, 9);
        value(1, 3, 9949, 99, 100, 99);
        value(1, 3, 9950, 100, 100, 99);
        value(3, 0, 9999, 9999000, 9999000, 9999000);
        value(3, 2, 7, 70, 70, 70);
        MirrorBridge x = new MirrorBridge();
        C.refused(x, "value(-1)", IllegalArgumentException.class, () -> x.value(-1));
        C.refused(x, "value(3)", IllegalArgumentException.class, () -> x.value(3));
    }

    private static void bestR(int p, int q, int ohms, int due) {
        MirrorBridge x = new MirrorBridge();
        x.set(0, p);
        x.set(1, q);
        int i = x.add(ohms);
        C.due("bestR with P " + p + ", Q " + q + ", X " + ohms, x.bestR(i), due);
    }

    private static void bestR() {
        bestR(2, 2, 1500, 1500);
        bestR(2, 2, 9999, 9999);
        bestR(1, 0, 4, 0);
        bestR(1, 0, 5, 0);
        bestR(1, 0, 6, 1);
        bestR(1, 0, 15, 1);
        bestR(1, 0, 16, 2);
        bestR(3, 0, 499, 0);
        bestR(3, 0, 500, 0);
        bestR(3, 0, 501, 1);
        bestR(3, 0, 1500, 1);
        bestR(3, 0, 9999, 10);
        bestR(0, 3, 9, 9000);
        bestR(0, 3, 10, 9999);
        bestR(0, 3, 9999, 9999);
        bestR(0, 1, 999, 9990);
        bestR(0, 1, 1000, 9999);
        bestR(2, 3, 9999, 9999);
        MirrorBridge x = Check.bridge("G221000103+0004x1500x0007");
        C.due("bestR(0)", x.bestR(0), 1500);
        C.due("bestR(1)", x.bestR(1), 7);
        for (int i : new int[] {-1, 2, 6, Integer.MIN_VALUE, Integer.MAX_VALUE}) {
            C.refused(x, "bestR(" + i + ")", IndexOutOfBoundsException.class, () -> x.bestR(i));
        }
    }

    private static void bestArms() {
        int[][] pairs = {{1, 3}, {9, 3}, {10, 2}, {99, 2}, {100, 1}, {999, 1}, {1000, 0}, {9999, 0}};
        for (int[] pair : pairs) {
            MirrorBridge x = new MirrorBridge();
            x.set(0, 3);
            int i = x.add(pair[0]);
            C.due("bestArms with X " + pair[0], x.bestArms(i), pair[1]);
        }
        MirrorBridge x = Check.bridge("G221000103+0004x1500x0007");
        C.due("bestArms(0)", x.bestArms(0), 0);
        C.due("bestArms(1)", x.bestArms(1), 3);
        for (int i : new int[] {-1, 2, 6, Integer.MIN_VALUE, Integer.MAX_VALUE}) {
            C.refused(x, "bestArms(" + i + ")", IndexOutOfBoundsException.class, () -> x.bestArms(i));
        }
    }

    private static void enoughShunt() {
        // the true deflections are 100000, 10000, 1000 and 100
        C.due("enoughShunt() of a new object", new MirrorBridge().enoughShunt(), 3);
        C.due("enoughShunt() in balance", Check.bridge("G221500103+5000x1500").enoughShunt(), 0);
        // with E = 50 the last one is 500
        MirrorBridge x = Check.bridge("G221000500+0004x1500");
        C.due("enoughShunt() at the end of the scale", x.enoughShunt(), 3);
        x.set(5, 1);
        C.due("enoughShunt() with 501", x.enoughShunt(), MirrorBridge.NONE);
        x.set(5, -1);
        C.due("enoughShunt() with -501", x.enoughShunt(), MirrorBridge.NONE);
        // with P and Q the other way round, the true deflection is below 0
        MirrorBridge low = Check.bridge("G223000030+0000x1500");
        C.due("true deflection", low.bridge(2), -50000);
        C.due("enoughShunt() with -500", low.enoughShunt(), 2);
        low.set(5, 1);
        C.due("enoughShunt() with -499 and 501", low.enoughShunt(), 3);
        low.set(5, -1);
        C.due("enoughShunt() with -501 and 499", low.enoughShunt(), 3);

        // the offset alone is beyond the scale
        MirrorBridge hot = Check.bridge("G221500993+0020x1500");
        for (int i = 0; i < 13; i++) {
            hot.pair();
        }
        C.due("offset", hot.about(8), 514);
        C.due("enoughShunt() with this offset", hot.enoughShunt(), MirrorBridge.NONE);
        hot.pause(1);
        C.due("offset", hot.about(8), 463);
        C.due("enoughShunt() with this offset", hot.enoughShunt(), 0);

        MirrorBridge stuck = Check.bridge("G001000100+0004x1500");
        stuck.press(false);
        C.due("enoughShunt() when it sticks", stuck.enoughShunt(), 3);
        C.due("the index of the shunt is as it was", stuck.about(4), 0);
    }

    private static void sensitivity() {
        // 1000000 * 49900 / 500200 = 99760, 1000000 * 50100 / 499800 = 100240
        C.due("sensitivity()", Check.bridge("G221000100+0004x1500").sensitivity(), 240);
        // 99, 100, 100: the smaller R changes nothing
        C.due("sensitivity() of a new object", new MirrorBridge().sensitivity(), 1);
        // R = 0: 500000, 499333
        C.due("sensitivity() at 0", Check.bridge("G220000100+0004x1500").sensitivity(), 667);
        // R = 0: 1/2 of 100000; R = 1: 1/6 of it; R = -1, which the box has not, would be 3/2 of it
        C.due("sensitivity() at 0 and 2 ohms", Check.bridge("G220000010+0004x0002").sensitivity(), 50000 - 16666);
        C.due("sensitivity() of nothing", Check.bridge("G229999013+0004x9999").sensitivity(), 0);
        // R = 9999: -369553; R = 9998: -369542
        C.due("sensitivity() at 9999", Check.bridge("G229999100+0004x1500").sensitivity(), 11);
        // R = 1: 0; R = 2: -1/6; R = 0: 1/2 of 100000
        C.due("sensitivity() towards 0", Check.bridge("G220001010+0004x0001").sensitivity(), 50000);
        C.due("sensitivity() at 0 and 1 ohm", Check.bridge("G220000010+0004x0001").sensitivity(), 50000);
        // R = 1 with Q / P = 1000: 999 / 2002; R = 0: 1000 / 1001; R = 2: 998 / 3003
        C.due("sensitivity() with other arms", Check.bridge("G030001010+0004x0001").sensitivity(), 99900 - 49900);
        // the key, the offset and the warmth are nothing to it
        MirrorBridge x = Check.bridge("G221000100-5004x1500");
        x.pair();
        C.due("sensitivity() with an offset", x.sensitivity(), 240);
        C.due("R is as it was", x.about(2), 1000);
    }

    private static void offsetAfter() {
        MirrorBridge x = Check.bridge("G221500993-0320x1500");
        C.due("offsetAfter(0, 0)", x.offsetAfter(0, 0), -3);
        C.due("offsetAfter(0, 200)", x.offsetAfter(0, 200), -3);
        C.due("offsetAfter(1, 0)", x.offsetAfter(1, 0), -3 + 19);
        C.due("offsetAfter(1, 2)", x.offsetAfter(1, 2), -3 + 16);
        C.due("offsetAfter(1, 8)", x.offsetAfter(1, 8), -3 + 7);
        C.due("offsetAfter(99, 0)", x.offsetAfter(99, 0), -3 + 1960);
        C.due("offsetAfter(99, 200)", x.offsetAfter(99, 200), -3);
        C.due("warmth is as it was", x.about(7), 0);
        C.due("clock is as it was", x.about(9), 0);
        x.press(false);
        x.press(false);
        // 198 + 99 * 99 = 9999 exactly, then above it
        C.due("offsetAfter(99, 0) when warm", x.offsetAfter(99, 0), -3 + 1999);
        x.press(false);
        C.due("offsetAfter(99, 0) at the greatest warmth", x.offsetAfter(99, 0), -3 + 1999);
        // 9999 - 1000 = 8999
        C.due("offsetAfter(99, 1) at the greatest warmth", x.offsetAfter(99, 1), -3 + 1799);

        MirrorBridge stuck = Check.bridge("G001000100+0010x1500");
        stuck.press(false);
        C.due("offsetAfter(9, 0) when it sticks", stuck.offsetAfter(9, 0), 10);
        // 10, 8, 7, 6, 5, 4, 3, 2, 1, 0
        C.due("offsetAfter(0, 8) when it sticks", stuck.offsetAfter(0, 8), 0);
        int[][] wrong = {{-1, 0}, {100, 0}, {0, -1}, {0, 201}, {Integer.MIN_VALUE, 0}, {0, Integer.MAX_VALUE}};
        for (int[] w : wrong) {
            C.refused(x, "offsetAfter(" + w[0] + ", " + w[1] + ")", IllegalArgumentException.class,
                    () -> x.offsetAfter(w[0], w[1]));
        }
    }

    private static void waitFor() {
        MirrorBridge x = Check.bridge("G221500993-0320x1500");
        C.due("waitFor(-3)", x.waitFor(-3), 0);
        C.due("waitFor(-4)", x.waitFor(-4), MirrorBridge.NONE);
        C.due("waitFor(-50)", x.waitFor(-50), MirrorBridge.NONE);
        C.due("waitFor(300)", x.waitFor(300), 0);
        x.press(false);
        // 99, 89, 80, 71, 63, 56, 50, 44, 39: the offsets are 16, 14, 13, 11, 9, 8, 7, 5, 4
        int[] due = {8, 7, 7, 6, 5, 4, 4, 3, 3, 2, 1, 1, 0};
        for (int offset = 4; offset <= 16; offset++) {
            C.due("waitFor(" + offset + ")", x.waitFor(offset), due[offset - 4]);
        }
        C.due("clock is as it was", x.about(9), 1);
        C.due("warmth is as it was", x.about(7), 99);
        for (int i = 1; i < 20; i++) {
            x.press(false);
        }
        // 1980, 1781, 1602, 1441: -3 + 396, 356, 320, 288
        C.due("waitFor(300) when hot", x.waitFor(300), 3);
        for (int offset : new int[] {-51, 301, Integer.MIN_VALUE, Integer.MAX_VALUE}) {
            C.refused(x, "waitFor(" + offset + ")", IllegalArgumentException.class, () -> x.waitFor(offset));
        }
        MirrorBridge low = Check.bridge("G221500993-5020x1500");
        C.due("waitFor(-50) at the least offset", low.waitFor(-50), 0);
    }

    private static void balanced() {
        MirrorBridge x = Check.bridge("G227777011+0000x1234");
        String ahead = Check.seen(x);
        int[] due = {1234, 28, 28, 0};
        for (int what = 0; what <= 3; what++) {
            C.due("balanced(" + what + ")", x.balanced(what), due[what]);
        }
        C.same("what is seen after balanced()", Check.seen(x), ahead);
        // the presses so far do not count, their warmth does
        x.press(false);
        x.press(false);
        int[] later = {1234, 28, 30, 0};
        for (int what = 0; what <= 3; what++) {
            C.due("balanced(" + what + ") after two presses", x.balanced(what), later[what]);
        }
        C.refused(x, "balanced(-1)", IllegalArgumentException.class, () -> x.balanced(-1));
        C.refused(x, "balanced(4)", IllegalArgumentException.class, () -> x.balanced(4));

        MirrorBridge stuck = Check.bridge("G001000100+0004x1500");
        stuck.press(false);
        int[] sticking = {1000, 1, 20, 1};
        for (int what = 0; what <= 3; what++) {
            C.due("balanced(" + what + ") when it sticks", stuck.balanced(what), sticking[what]);
        }
        stuck.set(4, 1);
        stuck.set(3, 1);
        stuck.set(6, 0);
        // 2, 6, 1 and 1 pairs, the last one of each decade below 0
        int[] free = {1500, 20, 30, 0};
        for (int what = 0; what <= 3; what++) {
            C.due("balanced(" + what + ") as if it were free", stuck.balanced(what), free[what]);
        }
        C.due("sticks still", stuck.about(12), 1);
        C.due("clock is as it was", stuck.about(9), 1);
    }
}
