/** Promises 26 and 27: runScript, simulate. */
final class ScriptsTest {
    private static final Check C = new Check("ScriptsTest");
    private static final int ALL = MirrorBridge.NONE;
    private static final String USUAL = "G221000103+0004x1500x0300";
    /** The galvanometer sticks at the first press. */
    private static final String COARSE = "G001000100+0004x1500";

    public static void main(String[] args) {
        arguments();
        presses();
        waits();
        setting();
        choosing();
        balancing();
        conditions();
        otherGroups();
        order();
        nothingChanges();
        simulate();
        simulatedElsewhere();
        C.end();
    }

    private static void due(MirrorBridge x, int n, long script, int due) {
        C.due("runScript(" + n + ", " + script + ")", x.runScript(n, script), due);
    }

    private static void arguments() {
        long[][] wrong = {
            {0, 0}, {4, 71000}, {-1, 0}, {Integer.MIN_VALUE, 0}, {Integer.MAX_VALUE, 0},
            {1, -1}, {1, 100000}, {1, Long.MAX_VALUE}, {1, Long.MIN_VALUE},
            {2, -71000}, {2, 10000000000L}, {2, Long.MAX_VALUE},
            {3, -1}, {3, 1000000000000000L}, {3, Long.MAX_VALUE}, {3, Long.MIN_VALUE},
        };
        for (long[] w : wrong) {
            MirrorBridge y = Check.bridge(USUAL);
            C.refused(y, "runScript(" + w[0] + ", " + w[1] + ")", IllegalArgumentException.class,
                    () -> y.runScript((int) w[0], w[1]));
        }
        MirrorBridge x = Check.bridge(USUAL);
        due(x, 1, 0, 0);
        due(x, 2, 0, 0);
        due(x, 3, 0, 0);
        due(x, 1, 99999, 0);
        due(x, 2, 9999999999L, 0);
        due(x, 3, 999999999999999L, 0);
        due(x, 1, 71000, ALL);
        // fewer digits: zeros before them, and a group of zeros fails
        due(x, 2, 71000, 0);
        due(x, 3, 7100071000L, 0);
        due(x, 2, 7100071000L, ALL);
        due(x, 3, 710007100071000L, ALL);
    }

    private static void presses() {
        MirrorBridge x = Check.bridge(USUAL);
        due(x, 1, 10000, 0);
        due(x, 1, 11000, 0);
        due(x, 1, 10001, ALL);
        due(x, 1, 11001, ALL);
        due(x, 1, 10099, ALL);
        due(x, 1, 11099, ALL);
        due(x, 1, 10100, 0);
        due(x, 1, 11100, 0);
        due(x, 1, 10999, 0);
        due(x, 1, 12001, 0);
        due(x, 1, 19001, 0);
        // the offset after 99 presses is 990 * 4 / 100 = 39, and the last reading 100 + 39
        due(x, 2, 1009990039L, ALL);
        due(x, 2, 1009990038L, 1);
        due(x, 2, 1009980139L, ALL);
        due(x, 2, 1009880139L, 1);
        due(x, 2, 1109981061L, ALL);
        due(x, 2, 1109980061L, 1);
        MirrorBridge coarse = Check.bridge(COARSE);
        // the press that overloads does not fail, the one behind it does
        due(coarse, 1, 10001, ALL);
        due(coarse, 1, 10002, 0);
        due(coarse, 2, 1000110001L, 1);
        due(coarse, 2, 1000171000L, ALL);
        due(coarse, 2, 1000180500L, ALL);
        due(coarse, 2, 1100181500L, ALL);
        coarse.press(false);
        due(coarse, 1, 10001, 0);
        due(coarse, 1, 11001, 0);
    }

    private static void waits() {
        MirrorBridge x = Check.bridge("G221500993-0320x1500");
        x.press(false);
        due(x, 1, 20000, 0);
        due(x, 1, 20001, ALL);
        due(x, 1, 20200, ALL);
        due(x, 1, 20201, 0);
        due(x, 1, 20999, 0);
        due(x, 1, 21001, 0);
        due(x, 1, 29001, 0);
        // the offsets are 16, 14, 13 ..
        due(x, 2, 2000190014L, ALL);
        due(x, 2, 2000190013L, 1);
        due(x, 2, 2000290013L, ALL);
        due(x, 2, 2000290012L, 1);
        due(x, 2, 2020091003L, ALL);
        due(x, 2, 2020091004L, 1);
        MirrorBridge coarse = Check.bridge(COARSE);
        coarse.press(false);
        due(coarse, 1, 20005, ALL);
        due(coarse, 2, 2020010001L, 1);
    }

    private static void setting() {
        MirrorBridge x = Check.bridge(USUAL);
        due(x, 2, 3000070000L, ALL);
        due(x, 2, 3999979999L, ALL);
        due(x, 2, 3123471235L, 1);
        due(x, 2, 3123471000L, 1);
        due(x, 1, 40000, ALL);
        due(x, 1, 40003, ALL);
        due(x, 1, 40004, 0);
        due(x, 1, 41003, ALL);
        due(x, 1, 41004, 0);
        due(x, 1, 42000, 0);
        due(x, 1, 42010, 0);
        due(x, 1, 43000, 0);
        due(x, 1, 43001, ALL);
        due(x, 1, 43099, ALL);
        due(x, 1, 44003, ALL);
        due(x, 1, 44004, 0);
        due(x, 1, 45050, ALL);
        due(x, 1, 45051, 0);
        due(x, 1, 46020, ALL);
        due(x, 1, 46021, 0);
        due(x, 1, 47000, 0);
        due(x, 1, 49001, 0);
        due(x, 1, 40100, 0);
        due(x, 1, 40101, 0);
        due(x, 1, 43150, 0);
        due(x, 1, 45900, 0);
        // with P = 1000: (150000 - 1000000) / (1100 * 2500) of 1000000, divided by 1000
        due(x, 3, 400031000181309L, ALL);
        // with Q = 10: (15000 - 100000) / (110 * 2500)
        due(x, 3, 410011000181309L, ALL);
        due(x, 3, 430991000180500L, ALL);
        due(x, 3, 430201000180200L, ALL);
        due(x, 3, 440031000180100L, ALL);
        due(x, 3, 440021000180500L, ALL);
        due(x, 3, 450071000180107L, ALL);
        // 11 presses, the last one with the warmth 100 and the drift 20
        due(x, 3, 460201001180120L, ALL);
        due(x, 3, 460201001180104L, 2);
        due(x, 3, 460201001190022L, ALL);
        due(x, 3, 460201001190021L, 2);
    }

    private static void choosing() {
        MirrorBridge x = Check.bridge(USUAL);
        due(x, 1, 50000, ALL);
        due(x, 1, 51000, ALL);
        due(x, 1, 52000, 0);
        due(x, 1, 59000, 0);
        due(x, 1, 51001, 0);
        due(x, 1, 51010, 0);
        due(x, 1, 51100, 0);
        // X = 300: (300 - 1000) / (2 * 1300) of 1000
        due(x, 3, 510001000181269L, ALL);
        due(x, 3, 500001000180100L, ALL);
        x.choose(1);
        due(x, 3, 510001000181269L, ALL);
        due(x, 3, 500001000180100L, ALL);
        x.add(1500);
        due(x, 1, 52000, ALL);
        due(x, 1, 53000, 0);
    }

    private static void balancing() {
        MirrorBridge x = Check.bridge("G227777011+0000x1234");
        due(x, 2, 6000071234L, ALL);
        due(x, 2, 6000071235L, 1);
        due(x, 1, 60001, 0);
        due(x, 1, 60010, 0);
        due(x, 1, 60100, 0);
        due(x, 1, 61000, 0);
        MirrorBridge coarse = Check.bridge(COARSE);
        // a balance in which the galvanometer sticks does not fail
        due(coarse, 2, 6000071000L, ALL);
        due(coarse, 2, 6000060000L, 1);
        coarse.press(false);
        due(coarse, 1, 60000, 0);
        due(coarse, 2, 3100060000L, 1);
    }

    private static void conditions() {
        MirrorBridge x = Check.bridge("G221000103+0704x1500");
        due(x, 1, 71000, ALL);
        due(x, 1, 70999, 0);
        due(x, 1, 71001, 0);
        due(x, 1, 80000, 0);
        due(x, 1, 81000, 0);
        due(x, 1, 90007, ALL);
        due(x, 1, 90006, 0);
        due(x, 1, 90099, ALL);
        due(x, 1, 91007, 0);
        due(x, 1, 91000, 0);
        due(x, 1, 90000, 0);
        due(x, 1, 92007, 0);
        due(x, 1, 92099, 0);
        due(x, 1, 90107, 0);
        due(Check.bridge(USUAL), 1, 90000, ALL);
        due(Check.bridge(USUAL), 1, 90100, 0);
        due(x, 1, 90199, 0);
        due(x, 1, 91107, 0);
        x.press(false);
        due(x, 1, 80107, ALL);
        due(x, 1, 80106, 0);
        due(x, 1, 80108, 0);
        due(x, 1, 81107, 0);
        due(x, 1, 82107, 0);
        x.press(true);
        due(x, 1, 81093, ALL);
        due(x, 1, 80093, 0);
        due(x, 1, 82093, 0);
        due(x, 1, 80107, 0);
        x.set(2, 1500);
        x.set(5, 0);
        x.pause(10);
        x.press(true);
        due(x, 1, 80000, ALL);
        due(x, 1, 81000, ALL);
        due(x, 1, 82000, 0);
        x.set(5, -20);
        due(x, 1, 91020, ALL);
        due(x, 1, 91021, 0);
        due(x, 1, 91019, ALL);
        due(x, 1, 90000, ALL);
        due(x, 1, 91000, ALL);
        due(x, 1, 93019, 0);
    }

    private static void otherGroups() {
        MirrorBridge x = Check.bridge(USUAL);
        for (int group : new int[] {0, 1, 1001, 9999, 7}) {
            due(x, 1, group, 0);
        }
    }

    private static void order() {
        MirrorBridge x = Check.bridge(USUAL);
        due(x, 3, 300013000270002L, ALL);
        due(x, 3, 300023000170002L, 2);
        due(x, 3, 300027000170002L, 1);
        due(x, 3, 700013000270002L, 0);
        due(x, 3, 710007000170002L, 1);
    }

    private static void nothingChanges() {
        MirrorBridge x = Check.bridge(USUAL);
        x.press(false);
        String ahead = Check.seen(x);
        due(x, 3, 400003500060000L, ALL);
        due(x, 3, 100993500051000L, ALL);
        due(x, 3, 450504602060000L, ALL);
        due(x, 3, 430994400010001L, ALL);
        C.same("what is seen after scripts", Check.seen(x), ahead);
        x.simulate(5, 99);
        C.same("what is seen after a simulation", Check.seen(x), ahead);
        due(x, 1, 71000, ALL);
        C.due("undo() of the press", x.undo(), 0);
    }

    /** The rounds by hand, on a bridge of its own: promise 27 told by the other promises. */
    private static int rounds(MirrorBridge x, long seed, int m) {
        long number = seed;
        int sum = 0;
        for (int i = 0; i < m; i++) {
            number = number * 6364136223846793005L + 1442695040888963407L;
            int r = (int) (number >>> 33);
            if (r % 4 == 0) {
                x.set(2, (r / 4) % 10000);
            } else if (r % 4 == 1) {
                x.pause(1);
            } else if (x.about(12) == 1) {
                x.free();
            } else {
                sum += x.press((r / 4) % 2 == 1);
            }
        }
        return sum;
    }

    private static void simulate() {
        long[] seeds = {0, 1, 2, 5, 6, -1, -77, 123456789012345L, Long.MIN_VALUE, Long.MAX_VALUE};
        String[] texts = {USUAL, COARSE, "G130047052-5010x0004", "G031000990+5020x0777", "G221000101+2020x1000"};
        for (String text : texts) {
            for (long seed : seeds) {
                for (int m : new int[] {1, 2, 3, 10, 98, 99}) {
                    MirrorBridge x = Check.bridge(text);
                    C.due("simulate(" + seed + ", " + m + ") of " + text, x.simulate(seed, m),
                            rounds(Check.bridge(text), seed, m));
                }
            }
        }
        MirrorBridge x = new MirrorBridge();
        for (int m : new int[] {0, -1, 100, Integer.MIN_VALUE, Integer.MAX_VALUE}) {
            C.refused(x, "simulate(1, " + m + ")", IllegalArgumentException.class, () -> x.simulate(1, m));
        }
        C.due("presses", x.about(14), 0);
        C.due("clock", x.about(9), 0);
        C.refused(x, "undo() of simulations", IllegalStateException.class, x::undo);
    }

    /** What has been worked out by a program of its own, in another language. */
    private static void simulatedElsewhere() {
        String usual = "G221000103+0004x1500";
        simulated(usual, 0, 1, -100);
        simulated(usual, 0, 99, -262);
        simulated(usual, 1, 4, 179);
        simulated(usual, 1, 20, -1451);
        simulated(usual, -1, 2, 344);
        simulated(usual, -1, 4, 0);
        simulated(usual, -1, 99, 333);
        simulated(usual, Long.MAX_VALUE, 20, -1294);
        simulated(usual, Long.MIN_VALUE, 99, 663);
        simulated(COARSE, 0, 20, 0);
        simulated(COARSE, 1, 99, -1500);
        simulated(COARSE, 7, 4, -500);
        simulated("G031000020+5020x0777", 1, 99, 4500);
        simulated("G031000020+5020x0777", -1, 20, 1500);
        MirrorBridge stuck = Check.bridge(COARSE);
        stuck.press(false);
        // the first round of the seed 0 is a press reversed: it frees the galvanometer instead
        C.due("simulate(0, 1) when it sticks", stuck.simulate(0, 1), 0);
        C.due("sticks still", stuck.about(12), 1);
    }

    private static void simulated(String text, long seed, int m, int due) {
        C.due("simulate(" + seed + ", " + m + ") of " + text, Check.bridge(text).simulate(seed, m), due);
    }
}
