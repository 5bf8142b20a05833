/** Promises 9 to 16: press, pair, pause, set, choose, add, free, balance. */
final class ActionsTest {
    private static final Check C = new Check("ActionsTest");
    /** The true deflection is -4990; with the steady offset 10 the key reversed gives 5000. */
    private static final String EDGE = "G309999011+1000x9999";
    /** The galvanometer sticks at the first press. */
    private static final String COARSE = "G001000100+0004x1500";

    public static void main(String[] args) {
        press();
        overload();
        pair();
        pause();
        set();
        choose();
        add();
        free();
        balance();
        balanceSticks();
        balanceDrifts();
        C.end();
    }

    private static void press() {
        MirrorBridge x = new MirrorBridge();
        C.due("press(false)", x.press(false), 100);
        C.due("warmth", x.about(7), 10);
        C.due("clock", x.about(9), 1);
        C.due("press(true)", x.press(true), -100);
        x.press(true);
        // the warmth is 30 ahead of this press: 30 * 4 / 100 = 1
        C.due("press(true) when warm", x.press(true), -99);
        C.due("press(false) when warm", x.press(false), 101);
        C.allAbout("five presses", x, 2, 2, 1000, 10, 3, 0, 4, 50, 2, 5, 1, 0, 0, 5, 5, 0);
        C.told(x, 0, 101, 1, 1000, 4);
        C.told(x, 1, -99, -1, 1000, 3);

        x.set(3, 50);
        x.set(6, 0);
        C.due("a reading at the end of the scale", x.press(false), 500);
        C.due("a reading at the other end", x.press(true), -500);
        x.set(5, -1);
        C.due("a reading inside the scale", x.press(false), 499);
        C.due("a reading behind the other end", x.press(true), -500);
        x.set(5, 1);
        C.due("a reading behind the end", x.press(false), 500);
        C.due("a reading inside the other end", x.press(true), -499);
        C.told(x, 1, 500, 1, 1000, 9);
        C.told(x, 2, -500, -1, 1000, 8);

        MirrorBridge hot = Check.bridge("G221500993+0020x1500");
        for (int i = 0; i < 100; i++) {
            C.due("press " + i, hot.press(i % 2 == 0), Math.min(500, 99 * i * 20 / 100));
        }
        C.due("warmth", hot.about(7), 9900);
        hot.press(false);
        C.due("warmth at its greatest", hot.about(7), 9999);
        hot.press(false);
        C.due("warmth at its greatest still", hot.about(7), 9999);
        C.due("offset at the greatest warmth", hot.about(8), 1999);
        C.due("clock", hot.about(9), 102);
    }

    private static void overload() {
        MirrorBridge x = Check.bridge(EDGE);
        C.due("raw deflection, forward", x.bridge(3), -4980);
        C.due("raw deflection, reversed", x.bridge(4), 5000);
        C.due("press(true) at 5000", x.press(true), 500);
        C.due("sticks at 5000", x.about(12), 0);
        x.set(5, 11);
        C.due("press(true) at 5001", x.press(true), 500);
        C.due("sticks at 5001", x.about(12), 1);
        C.due("overloads", x.about(15), 1);
        C.due("presses", x.about(14), 2);
        C.due("readings", x.about(13), 2);
        C.due("warmth", x.about(7), 2);
        C.due("clock", x.about(9), 2);
        C.refused(x, "press(false) when it sticks", IllegalStateException.class, () -> x.press(false));
        C.refused(x, "press(true) when it sticks", IllegalStateException.class, () -> x.press(true));
        // a bridge in balance does not set the galvanometer free
        x.set(4, 3);
        C.refused(x, "press(false) when it still sticks", IllegalStateException.class, () -> x.press(false));
        x.free();
        x.set(4, 1);
        x.set(5, -10);
        C.due("press(false) at -5000", x.press(false), -500);
        C.due("sticks at -5000", x.about(12), 0);
        x.set(5, -11);
        C.due("press(false) at -5001", x.press(false), -500);
        C.due("sticks at -5001", x.about(12), 1);
        C.due("overloads", x.about(15), 2);
        C.told(x, 0, -500, 1, 9999, 8);
    }

    private static void pair() {
        MirrorBridge x = new MirrorBridge();
        C.due("pair()", x.pair(), 200);
        C.told(x, 0, -100, -1, 1000, 1);
        C.told(x, 1, 100, 1, 1000, 0);
        C.due("presses", x.about(14), 2);
        C.due("warmth", x.about(7), 20);
        // the offset is 0 at first and 1 then
        C.due("pair() when warm", x.pair(), 100 - -99);
        C.due("undo() of two pairs", x.undo(), 1);
        C.due("presses", x.about(14), 2);

        MirrorBridge first = Check.bridge(COARSE);
        C.due("pair() that sticks at once", first.pair(), 500);
        C.due("presses", first.about(14), 1);
        C.due("sticks", first.about(12), 1);
        C.refused(first, "pair() when it sticks", IllegalStateException.class, first::pair);

        MirrorBridge second = Check.bridge(EDGE);
        second.set(5, 11);
        C.due("pair() that sticks at the second reading", second.pair(), -500 - 500);
        C.due("presses", second.about(14), 2);
        C.due("sticks", second.about(12), 1);
        C.refused(second, "pair() when it sticks", IllegalStateException.class, second::pair);
    }

    private static void pause() {
        MirrorBridge x = Check.bridge("G221500993-0320x1500");
        x.press(false);
        // 99, 89, 80
        C.due("pause(2)", x.pause(2), -3 + 16);
        C.due("warmth", x.about(7), 80);
        C.due("clock", x.about(9), 3);
        // 80, 71, 63, 56, 50, 44, 39
        C.due("pause(6)", x.pause(6), -3 + 7);
        C.due("warmth", x.about(7), 39);
        C.due("pause(1)", x.pause(1), -3 + 7);
        C.due("warmth", x.about(7), 35);
        C.due("pause(200)", x.pause(200), -3);
        C.due("warmth", x.about(7), 0);
        C.due("clock", x.about(9), 210);
        C.due("pause(1) when cold", x.pause(1), -3);
        C.due("warmth", x.about(7), 0);
        C.due("clock", x.about(9), 211);
        C.due("presses", x.about(14), 1);
        for (int m : new int[] {0, -1, 201, Integer.MIN_VALUE, Integer.MAX_VALUE}) {
            C.refused(x, "pause(" + m + ")", IllegalArgumentException.class, () -> x.pause(m));
        }

        MirrorBridge stuck = Check.bridge(COARSE);
        stuck.press(false);
        stuck.pause(200);
        C.due("sticks after waiting", stuck.about(12), 1);
    }

    private static void set() {
        int[] least = {0, 0, 0, 1, 0, -50, 0};
        int[] greatest = {3, 3, 9999, 99, 3, 50, 20};
        int[] first = {2, 2, 1000, 10, 3, 0, 4};
        for (int what = 0; what <= 6; what++) {
            int w = what;
            MirrorBridge x = new MirrorBridge();
            C.due("set(" + w + ", least)", x.set(w, least[w]), first[w]);
            C.due("about(" + w + ")", x.about(w), least[w]);
            C.due("set(" + w + ", greatest)", x.set(w, greatest[w]), least[w]);
            C.due("about(" + w + ")", x.about(w), greatest[w]);
            int[] wrong = {least[w] - 1, greatest[w] + 1, Integer.MIN_VALUE, Integer.MAX_VALUE};
            for (int v : wrong) {
                C.refused(x, "set(" + w + ", " + v + ")", IllegalArgumentException.class, () -> x.set(w, v));
            }
            C.due("set(" + w + ") back", x.set(w, first[w]), greatest[w]);
            C.allAbout("the number set back", x, 2, 2, 1000, 10, 3, 0, 4, 0, 0, 0, 1, 0, 0, 0, 0, 0);
        }
        MirrorBridge x = new MirrorBridge();
        C.refused(x, "set(-1, 1)", IllegalArgumentException.class, () -> x.set(-1, 1));
        C.refused(x, "set(7, 1)", IllegalArgumentException.class, () -> x.set(7, 1));
        C.refused(x, "set(12, 1)", IllegalArgumentException.class, () -> x.set(12, 1));

        MirrorBridge stuck = Check.bridge(COARSE);
        stuck.press(false);
        C.due("set() when it sticks", stuck.set(4, 2), 0);
    }

    private static void choose() {
        MirrorBridge x = Check.bridge("G221000103+0004x1500x0007x0300");
        C.due("choose(2)", x.choose(2), 0);
        C.due("N", x.bridge(0), 100 * 300 - 100 * 1000);
        C.due("choose(1)", x.choose(1), 2);
        C.due("choose(1) again", x.choose(1), 1);
        C.due("N", x.bridge(0), 100 * 7 - 100 * 1000);
        C.due("choose(0)", x.choose(0), 1);
        for (int i : new int[] {-1, 3, 6, Integer.MIN_VALUE, Integer.MAX_VALUE}) {
            C.refused(x, "choose(" + i + ")", IndexOutOfBoundsException.class, () -> x.choose(i));
        }
    }

    private static void add() {
        MirrorBridge x = new MirrorBridge();
        for (int ohms : new int[] {0, 10000, -1, Integer.MIN_VALUE, Integer.MAX_VALUE}) {
            C.refused(x, "add(" + ohms + ")", IllegalArgumentException.class, () -> x.add(ohms));
        }
        C.due("add(1)", x.add(1), 1);
        C.due("add(9999)", x.add(9999), 2);
        C.due("the one in the bridge", x.about(11), 0);
        x.choose(1);
        C.due("N", x.bridge(0), 100 - 100000);
        x.choose(2);
        C.due("N", x.bridge(0), 999900 - 100000);
        C.due("add(5)", x.add(5), 3);
        C.due("add(5) again", x.add(5), 4);
        C.due("add(6)", x.add(6), 5);
        C.due("unknown resistors", x.about(10), 6);
        C.refused(x, "a seventh", IllegalStateException.class, () -> x.add(7));
        C.refused(x, "a seventh of no ohms", IllegalArgumentException.class, () -> x.add(0));
        C.refused(x, "a seventh of too many ohms", IllegalArgumentException.class, () -> x.add(10000));
    }

    private static void free() {
        MirrorBridge x = Check.bridge(COARSE);
        x.press(false);
        C.due("warmth", x.about(7), 10);
        C.due("free() when it sticks", x.free(), 1);
        // 10, 8, 7, 6, 5, 4
        C.due("warmth", x.about(7), 4);
        C.due("clock", x.about(9), 6);
        C.due("sticks", x.about(12), 0);
        C.due("overloads", x.about(15), 1);
        C.due("free() when it is free", x.free(), 0);
        C.due("warmth", x.about(7), 0);
        C.due("clock", x.about(9), 11);
        C.due("press() when it is free", x.press(true), -500);
    }

    private static void balance(String text, int r, int presses) {
        MirrorBridge x = Check.bridge(text);
        C.due("balance() of " + text, x.balance(), r);
        C.due("R", x.about(2), r);
        C.due("presses", x.about(14), presses);
        C.due("clock", x.about(9), presses);
        C.due("warmth", x.about(7), presses * x.about(3));
        C.due("sticks", x.about(12), 0);
        C.due("undo() of balance()", x.undo(), 0);
        C.due("presses", x.about(14), 0);
    }

    private static void balance() {
        // 2, 3, 4 and 5 pairs, the last one of each decade below 0
        balance("G227777011+0000x1234", 1234, 28);
        balance("G220000011+0000x1234", 1234, 28);
        // no pair is made with an R above 9999: 9 pairs a decade
        balance("G229999011+0000x9999", 9999, 72);
        // a raw deflection of 5000 with R = 1000; 4 pairs, and one below 0 for each other decade
        balance("G225000021+0000x3000", 3000, 14);
        // every pair but the last one is below 0
        balance("G225000011+0000x0001", 1, 10);
        MirrorBridge x = Check.bridge("G227777011+0000x1234");
        x.balance();
        // the last pair has been made with R = 1235, the one ahead of it with 1234
        C.due("R of the last reading", x.told(0, 2), 1235);
        C.due("R of the pair ahead of it", x.told(2, 2), 1234);
        C.due("R of the pair ahead of that", x.told(4, 2), 1233);
    }

    private static void balanceSticks() {
        // the first press overloads: 1000000 * 500 / (2 * 2500) = 100000
        MirrorBridge x = Check.bridge(COARSE);
        C.due("balance() that sticks", x.balance(), 1000);
        C.allAbout("balance() that sticks", x, 0, 0, 1000, 10, 0, 0, 4, 10, 0, 1, 1, 0, 1, 1, 1, 1);
        C.refused(x, "balance() when it sticks", IllegalStateException.class, x::balance);
        // the result is below 0, and R stays all the same
        MirrorBridge low = Check.bridge("G005000100+0004x0001");
        C.due("balance() that sticks below 0", low.balance(), 1000);
        C.due("its reading", low.told(0, 0), -500);
        C.due("presses", low.about(14), 1);
        // 100000 * -999 / 2002 / 10 = -4990: the second press of the first pair overloads
        MirrorBridge second = Check.bridge("G225000011+1100x0001");
        C.due("balance() that sticks at the second press", second.balance(), 1000);
        C.due("presses", second.about(14), 2);
        C.due("sticks", second.about(12), 1);
        C.told(second, 0, 500, -1, 1000, 1);
        C.told(second, 1, -500, 1, 1000, 0);
        // one less, and nothing sticks
        balance("G225000011+1000x0001", 1, 10);
    }

    private static void balanceDrifts() {
        // both readings of a pair stand at the end of the scale: their difference is 0
        balanceDrifts("G331000993-4715x8143", 9999, 3804, 9999);
        balanceDrifts("G221000993+0020x1000", 1869, 236, 9999);
        // ten times the decade 1
        balanceDrifts("G001000023+2311x0010", 10, 28, 56);
    }

    private static void balanceDrifts(String text, int r, int presses, int warmth) {
        MirrorBridge x = Check.bridge(text);
        C.due("balanced(0)", x.balanced(0), r);
        C.due("balanced(1)", x.balanced(1), presses);
        C.due("balanced(2)", x.balanced(2), warmth);
        C.due("balance() of " + text, x.balance(), r);
        C.due("presses", x.about(14), presses);
        C.due("warmth", x.about(7), warmth);
        C.due("readings", x.about(13), 20);
    }
}
