import java.math.BigInteger;

/**
 * The boundaries of promises 26 and 27, scripts and simulations: a test for each sentence, on both
 * sides of its boundary.
 */
final class ScriptEdgesTest {
    private static final Check C = new Check("ScriptEdgesTest");
    private static final int ALL = MirrorBridge.NONE;
    private static final Class<?> ARGUMENT = IllegalArgumentException.class;
    private static final String USUAL = "G221000103+0004x1500x0300";
    private static final String COARSE = "G001000100+0004x1500";

    public static void main(String[] args) {
        scripts();
        commands();
        conditions();
        otherGroups();
        simulations();
        C.end();
    }

    private static void scripts() {
        String place = "Promise 26";
        C.sentence(place, "Runs a script on a copy of the state.", ScriptEdgesTest::onACopy);
        C.sentence(place, "A script has 1 to 3 commands", ScriptEdgesTest::oneToThree);
        C.sentence(place, "the first command is the highest group of the number", ScriptEdgesTest::highestFirst);
        C.sentence(place, "(with zeros before it, if it has fewer digits)", ScriptEdgesTest::fewerDigits);
        C.sentence(place, "Returns the index, from 0, of the first command that fails; NONE if all succeed.",
                ScriptEdgesTest::firstThatFails);
        C.sentence(place, "if n is out of range", ScriptEdgesTest::nOutOfRange);
        C.sentence(place, "or if script is negative", ScriptEdgesTest::negative);
        C.sentence(place, "or has more than 5 * n digits", ScriptEdgesTest::moreDigits);
    }

    private static void commands() {
        String place = "Promise 26";
        C.sentence(place, "presses the key xyz times (001 to 099)", ScriptEdgesTest::pressTimes);
        C.sentence(place, "forward if r is 0, reversed if it is 1", ScriptEdgesTest::pressWay);
        C.sentence(place, "(1 if one of its presses would)", ScriptEdgesTest::oneOfItsPresses);
        C.sentence(place, "waits xyz ticks (001 to 200)", ScriptEdgesTest::waits);
        C.sentence(place, "3 x y z w: R becomes xyzw.", ScriptEdgesTest::box);
        C.sentence(place, "sets the number w, as for set(), but not R (2), to xy", ScriptEdgesTest::sets);
        C.sentence(place, "puts the unknown resistor i into the bridge", ScriptEdgesTest::puts);
        C.sentence(place, "balances", ScriptEdgesTest::balances);
        C.sentence(place, "The commands 1 to 6 fail if the method with this effect would throw an exception",
                ScriptEdgesTest::wouldThrow);
    }

    private static void conditions() {
        String place = "Promise 26";
        C.sentence(place, "succeeds if R is xyzw", ScriptEdgesTest::boxIs);
        C.sentence(place, "succeeds if the latest reading in the ledger is xyz (s is 0) or -xyz (s is 1)",
                ScriptEdgesTest::latestReading);
        C.sentence(place, "with an empty ledger it fails", ScriptEdgesTest::emptyLedger);
        C.sentence(place, "succeeds if the offset is at most xy (s is 0) or -xy (s is 1)",
                ScriptEdgesTest::offsetAtMost);
    }

    private static void otherGroups() {
        C.sentence("Promise 26", "any other group fails", ScriptEdgesTest::anyOther);
        C.sentence("Promise 26", "(also one with another digit where a 0 is written)", ScriptEdgesTest::whereAZeroIs);
    }

    private static void simulations() {
        String place = "Promise 27";
        C.sentence(place, "Simulates m rounds on a copy of the state.", ScriptEdgesTest::roundsOnACopy);
        C.sentence(place, "A long x starts as the seed.", ScriptEdgesTest::anySeed);
        C.sentence(place, "(with long overflow)", ScriptEdgesTest::longOverflow);
        C.sentence(place, "If r % 4 is 0, R becomes r / 4 % 10000; if it is 1, a tick of waiting passes",
                ScriptEdgesTest::quarters);
        C.sentence(place, "if it sticks, it is freed instead (which lasts 5 ticks of waiting)",
                ScriptEdgesTest::freedInstead);
        C.sentence(place, "number of rounds, 1 to 99", ScriptEdgesTest::rounds);
    }

    private static Scene.Calls loaded(String text) {
        return x -> {
            Check.write(x, text);
            x.load();
        };
    }

    private static void due(MirrorBridge x, int n, long script, int due) {
        C.due("runScript(" + n + ", " + script + ")", x.runScript(n, script), due);
    }

    /** One command on a new bridge of this text. */
    private static void one(String text, int group, int due) {
        due(Check.bridge(text), 1, group, due);
    }

    // ---- the script

    private static void onACopy() {
        Scene.Calls run = Scene.then(loaded(USUAL), x -> x.press(false));
        long[] scripts = {100051100120007L, 312344399944000L, 450504602051000L, 600006000060000L, 311119999960000L};
        for (long script : scripts) {
            C.unchanged("runScript(3, " + script + ")", run, x -> x.runScript(3, script));
        }
        // a script that fails has changed nothing either, nor does the next one begin where it ended
        C.unchanged("runScript(2, 31234 00000)", run, x -> x.runScript(2, 3123400000L));
        MirrorBridge x = Scene.after(run);
        due(x, 2, 3123471234L, ALL);
        due(x, 1, 71234, 0);
        due(x, 1, 71000, ALL);
    }

    private static void oneToThree() {
        MirrorBridge x = Check.bridge(USUAL);
        due(x, 1, 71000, ALL);
        due(x, 2, 7100071000L, ALL);
        due(x, 3, 710007100071000L, ALL);
    }

    private static void highestFirst() {
        MirrorBridge x = Check.bridge(USUAL);
        due(x, 2, 3000170001L, ALL);
        due(x, 2, 7000130001L, 0);
        due(x, 3, 300013000270002L, ALL);
        due(x, 3, 300023000170002L, 2);
        due(x, 3, 300017000130002L, ALL);
        due(x, 3, 300017000230002L, 1);
    }

    private static void fewerDigits() {
        MirrorBridge x = Check.bridge(USUAL);
        // the groups 00000, 71000 and so on: a group that begins with 0 fails
        due(x, 1, 0, 0);
        due(x, 1, 9999, 0);
        due(x, 1, 10001, ALL);
        due(x, 2, 71000, 0);
        due(x, 2, 971000, 0);
        due(x, 2, 999971000L, 0);
        due(x, 2, 1000171000L, ALL);
        due(x, 3, 71000, 0);
        due(x, 3, 7100071000L, 0);
        due(x, 3, 99997100071000L, 0);
        due(x, 3, 100017100071000L, ALL);
    }

    private static void firstThatFails() {
        MirrorBridge x = Check.bridge(USUAL);
        for (int n = 1; n <= 3; n++) {
            for (int wrong = 0; wrong <= n; wrong++) {
                long script = 0;
                for (int k = 0; k < n; k++) {
                    script = script * 100000 + (k == wrong ? 70999 : 71000);
                }
                due(x, n, script, wrong == n ? ALL : wrong);
            }
        }
        // the first one of several
        due(x, 3, 709997099970999L, 0);
        due(x, 3, 710007099970999L, 1);
        due(x, 3, 709997100070999L, 0);
    }

    private static void nOutOfRange() {
        for (int n : new int[] {0, 4, -1, Integer.MIN_VALUE, Integer.MAX_VALUE}) {
            C.refusedAfter("runScript(" + n + ", 0)", ARGUMENT, loaded(USUAL), x -> x.runScript(n, 0));
            C.refusedAfter("runScript(" + n + ", 71000)", ARGUMENT, loaded(USUAL), x -> x.runScript(n, 71000));
        }
        // a script of twenty digits is no long, but 19 digits are not more than 5 * 4
        C.refusedAfter("runScript(4, MAX)", ARGUMENT, loaded(USUAL), x -> x.runScript(4, Long.MAX_VALUE));
    }

    private static void negative() {
        for (int n = 1; n <= 3; n++) {
            int k = n;
            due(Check.bridge(USUAL), k, 0, 0);
            for (long script : new long[] {-1, -71000, Long.MIN_VALUE, -9999999999L, Integer.MIN_VALUE}) {
                C.refusedAfter("runScript(" + k + ", " + script + ")", ARGUMENT, loaded(USUAL),
                        x -> x.runScript(k, script));
            }
        }
    }

    private static void moreDigits() {
        long[] greatest = {99999, 9999999999L, 999999999999999L};
        for (int n = 1; n <= 3; n++) {
            int k = n;
            due(Check.bridge(USUAL), k, greatest[k - 1], 0);
            long[] wrong = {greatest[k - 1] + 1, greatest[k - 1] * 10 + 9, Long.MAX_VALUE};
            for (long script : wrong) {
                C.refusedAfter("runScript(" + k + ", " + script + ")", ARGUMENT, loaded(USUAL),
                        x -> x.runScript(k, script));
            }
        }
        // 2^32 and more: the digits are those of a long
        C.refusedAfter("runScript(1, 2^32 + 71000)", ARGUMENT, loaded(USUAL), x -> x.runScript(1, (1L << 32) + 71000));
    }

    // ---- commands 1 to 6

    private static void pressTimes() {
        for (int r = 0; r <= 1; r++) {
            int group = 10000 + 1000 * r;
            one(USUAL, group, 0);
            one(USUAL, group + 1, ALL);
            one(USUAL, group + 98, ALL);
            one(USUAL, group + 99, ALL);
            one(USUAL, group + 100, 0);
            one(USUAL, group + 101, 0);
            one(USUAL, group + 999, 0);
        }
        // E = 99, the drift 20: one press leads to 19, 3 to 59, 4 to 79, 5 to 99
        MirrorBridge x = Check.bridge("G221500993+0020x1500");
        due(x, 2, 1000190019L, ALL);
        due(x, 2, 1000190018L, 1);
        due(x, 2, 1000590099L, ALL);
        due(x, 2, 1000590098L, 1);
        due(x, 2, 1000690099L, 1);
        // 99 presses of E = 1 with the drift 1: 0.99, and one more
        due(Check.bridge("G221500013+0001x1500"), 2, 1009990000L, ALL);
        due(Check.bridge("G221500013+0001x1500"), 3, 100991000190000L, 2);
    }

    private static void pressWay() {
        MirrorBridge x = Check.bridge(USUAL);
        due(x, 2, 1000180100L, ALL);
        due(x, 2, 1100181100L, ALL);
        due(x, 2, 1000181100L, 1);
        due(x, 2, 1100180100L, 1);
        one(USUAL, 12001, 0);
        one(USUAL, 19001, 0);
    }

    private static void oneOfItsPresses() {
        // the first press overloads: it does not fail, the next one does
        one(COARSE, 10001, ALL);
        one(COARSE, 10002, 0);
        one(COARSE, 10099, 0);
        due(Check.bridge(COARSE), 2, 1000110001L, 1);
        due(Check.bridge(COARSE), 2, 1000111001L, 1);
        // 5000 + 0 reversed with E = 1 and the drift 20: the warmth 5 makes it 5001 at the sixth press
        MirrorBridge x = Check.bridge("G001100010+0020x0900");
        due(x, 1, 11005, ALL);
        due(x, 1, 11006, ALL);
        due(x, 1, 11007, 0);
        due(x, 2, 1100511001L, ALL);
        due(x, 2, 1100611001L, 1);
    }

    private static void waits() {
        one(USUAL, 20000, 0);
        one(USUAL, 20001, ALL);
        one(USUAL, 20199, ALL);
        one(USUAL, 20200, ALL);
        one(USUAL, 20201, 0);
        one(USUAL, 20999, 0);
        // 99, 89, 80: the offsets are 19, 17, 16
        MirrorBridge x = Check.bridge("G221500993+0020x1500");
        x.press(false);
        due(x, 2, 2000190017L, ALL);
        due(x, 2, 2000190016L, 1);
        due(x, 2, 2000290016L, ALL);
        due(x, 2, 2020090000L, ALL);
        // waiting is no matter of the galvanometer, and does not free it
        MirrorBridge stuck = Check.bridge(COARSE);
        stuck.press(false);
        due(stuck, 1, 20200, ALL);
        due(stuck, 2, 2020010001L, 1);
    }

    private static void box() {
        MirrorBridge x = Check.bridge(USUAL);
        due(x, 2, 3000070000L, ALL);
        due(x, 2, 3000170001L, ALL);
        due(x, 2, 3999979999L, ALL);
        due(x, 2, 3123471234L, ALL);
        due(x, 2, 3123471235L, 1);
        due(x, 2, 3123471000L, 1);
    }

    private static void sets() {
        // w, the greatest number that is allowed and the first one that is not
        int[][] rows = {{0, 3, 4}, {1, 3, 4}, {3, 99, -1}, {4, 3, 4}, {5, 50, 51}, {6, 20, 21}};
        for (int[] row : rows) {
            int group = 40000 + 1000 * row[0];
            one(USUAL, group + row[1], ALL);
            if (row[2] > 0) {
                one(USUAL, group + row[2], 0);
                one(USUAL, group + 99, 0);
            }
            one(USUAL, group, row[0] == 3 ? 0 : ALL);
            one(USUAL, group + 1, ALL);
        }
        for (int v : new int[] {0, 1, 10, 99}) {
            one(USUAL, 42000 + v, 0);
            one(USUAL, 47000 + v, 0);
            one(USUAL, 48000 + v, 0);
            one(USUAL, 49000 + v, 0);
        }
        // each has its effect: P = 1000, Q = 10, E = 20, the shunt 2, the steady offset 7
        MirrorBridge x = Check.bridge(USUAL);
        due(x, 3, 400031000181309L, ALL);
        due(x, 3, 410011000181309L, ALL);
        due(x, 3, 430201000180200L, ALL);
        due(x, 3, 440021000180500L, ALL);
        due(x, 3, 450071000180107L, ALL);
        due(x, 3, 450501000180150L, ALL);
        // the drift 20: the warmth 10 makes it 2
        due(x, 3, 460201000190002L, ALL);
        due(x, 3, 460201000190001L, 2);
        // also when it sticks
        MirrorBridge stuck = Check.bridge(COARSE);
        stuck.press(false);
        due(stuck, 1, 44003, ALL);
    }

    private static void puts() {
        one(USUAL, 50000, ALL);
        one(USUAL, 51000, ALL);
        one(USUAL, 52000, 0);
        String six = "G221000103+0004x1500x0300x0001x0002x0003x0004";
        one(six, 55000, ALL);
        one(six, 56000, 0);
        one(six, 59000, 0);
        // X = 300: (300 - 1000) / (2 * 1300) of 1000
        due(Check.bridge(USUAL), 3, 510001000181269L, ALL);
        due(Check.bridge(USUAL), 3, 500001000180100L, ALL);
        due(Check.bridge("G221000103+0004x1500"), 1, 51000, 0);
    }

    private static void balances() {
        MirrorBridge x = Check.bridge("G220000011+0000x1111");
        due(x, 2, 6000071111L, ALL);
        due(x, 2, 6000071112L, 1);
        // a balance in which the galvanometer sticks does not fail; the one behind it does
        MirrorBridge coarse = Check.bridge(COARSE);
        due(coarse, 1, 60000, ALL);
        due(coarse, 2, 6000071000L, ALL);
        due(coarse, 2, 6000060000L, 1);
        due(coarse, 2, 6000010001L, 1);
    }

    private static void wouldThrow() {
        MirrorBridge stuck = Check.bridge(COARSE);
        stuck.press(false);
        due(stuck, 1, 10001, 0);
        due(stuck, 1, 11001, 0);
        due(stuck, 1, 60000, 0);
        due(stuck, 1, 20001, ALL);
        due(stuck, 1, 30001, ALL);
        due(stuck, 1, 40001, ALL);
        due(stuck, 1, 50000, ALL);
        due(stuck, 1, 51000, 0);
        due(stuck, 1, 40004, 0);
        due(stuck, 1, 20201, 0);
        MirrorBridge free = Check.bridge(COARSE);
        due(free, 1, 10001, ALL);
        due(free, 1, 60000, ALL);
    }

    // ---- commands 7 to 9

    private static void boxIs() {
        MirrorBridge x = Check.bridge(USUAL);
        due(x, 1, 71000, ALL);
        due(x, 1, 70999, 0);
        due(x, 1, 71001, 0);
        x.set(2, 0);
        due(x, 1, 70000, ALL);
        due(x, 1, 70001, 0);
        x.set(2, 9999);
        due(x, 1, 79999, ALL);
        due(x, 1, 79998, 0);
    }

    private static void latestReading() {
        MirrorBridge x = Check.bridge("G221000503+0000x1500");
        x.press(false);
        due(x, 1, 80500, ALL);
        due(x, 1, 80499, 0);
        due(x, 1, 80501, 0);
        due(x, 1, 81500, 0);
        x.press(true);
        due(x, 1, 81500, ALL);
        due(x, 1, 81499, 0);
        due(x, 1, 81501, 0);
        due(x, 1, 80500, 0);
        x.set(5, 1);
        x.press(true);
        due(x, 1, 81499, ALL);
        // in balance; -000 is 0 too
        x.set(2, 1500);
        x.set(5, 0);
        x.press(true);
        due(x, 1, 80000, ALL);
        due(x, 1, 81000, ALL);
        due(x, 1, 80001, 0);
        due(x, 1, 81001, 0);
        due(x, 1, 82000, 0);
        // the latest one of several
        x.undo();
        due(x, 1, 81499, ALL);
        due(x, 1, 81500, 0);
    }

    private static void emptyLedger() {
        one(USUAL, 80000, 0);
        one(USUAL, 81000, 0);
        one(USUAL, 80100, 0);
        MirrorBridge x = Check.bridge(USUAL);
        due(x, 2, 1000180100L, ALL);
        x.press(false);
        due(x, 1, 80100, ALL);
        x.undo();
        due(x, 1, 80100, 0);
        due(x, 1, 80000, 0);
        // -9999 is not a reading
        due(x, 1, 81999, 0);
    }

    private static void offsetAtMost() {
        for (int steady : new int[] {0, 1, 7, 50}) {
            MirrorBridge x = Check.bridge(USUAL);
            x.set(5, steady);
            due(x, 1, 90000 + steady, ALL);
            due(x, 1, 90099, ALL);
            if (steady > 0) {
                due(x, 1, 90000 + steady - 1, 0);
                due(x, 1, 91000 + steady, 0);
                due(x, 1, 91000, 0);
            }
            due(x, 1, 91001, 0);
        }
        for (int steady : new int[] {-1, -7, -50}) {
            MirrorBridge x = Check.bridge(USUAL);
            x.set(5, steady);
            due(x, 1, 91000 - steady, ALL);
            due(x, 1, 91000 - steady - 1, ALL);
            due(x, 1, 91000 - steady + 1, 0);
            due(x, 1, 91099, 0);
            due(x, 1, 90000, ALL);
            due(x, 1, 91000, ALL);
        }
        one(USUAL, 90000, ALL);
        one(USUAL, 91000, ALL);
        one(USUAL, 92000, 0);
        // offsets of 99 and of 100
        MirrorBridge hot = Check.bridge("G221500993+0120x1500");
        for (int i = 0; i < 5; i++) {
            hot.press(false);
        }
        C.due("offset", hot.about(8), 100);
        due(hot, 1, 90099, 0);
        due(hot, 2, 4500090099L, ALL);
        due(hot, 2, 4500090098L, 1);
    }

    // ---- other groups

    /** Whether the document has this group, on a bridge of two unknown resistors that has R = 1000, 100 as its reading. */
    private static boolean told(int group) {
        int[] d = {group / 10000, group / 1000 % 10, group / 100 % 10, group / 10 % 10, group % 10};
        int xy = 10 * d[3] + d[4];
        int xyz = 100 * d[2] + xy;
        int[] greatest = {3, 3, -1, 99, 3, 50, 20};
        switch (d[0]) {
            case 1: return d[1] <= 1 && xyz >= 1 && xyz <= 99;
            case 2: return d[1] == 0 && xyz >= 1 && xyz <= 200;
            case 3: return true;
            case 4: return d[1] <= 6 && d[2] == 0 && xy <= greatest[d[1]] && (d[1] != 3 || xy >= 1);
            case 5: return d[1] <= 1 && xyz == 0;
            case 6: return d[1] == 0 && xyz == 0;
            case 7: return 1000 * d[1] + xyz == 1000;
            case 8: return d[1] == 0 && xyz == 100;
            case 9: return d[2] == 0 && (d[1] == 0 || d[1] == 1 && xy == 0);
            default: return false;
        }
    }

    private static void anyOther() {
        // each of the 100000 groups
        MirrorBridge x = null;
        for (int group = 0; group <= 99999; group++) {
            if (group % 400 == 0) {
                x = Check.bridge(USUAL);
                x.press(false);
            }
            C.due("runScript(1, " + group + ")", x.runScript(1, group), told(group) ? ALL : 0);
        }
    }

    private static void whereAZeroIs() {
        // the group with its 0, and then with each other digit in its place
        int[][] groups = {{20001, 1000}, {40001, 100}, {41001, 100}, {43001, 100}, {44001, 100}, {45001, 100},
            {46001, 100}, {50000, 100}, {50000, 10}, {50000, 1}, {51000, 100}, {51000, 10}, {51000, 1}, {60000, 1000},
            {60000, 100}, {60000, 10}, {60000, 1}, {90000, 100}, {91000, 100}};
        for (int[] group : groups) {
            one(USUAL, group[0], ALL);
            for (int digit = 1; digit <= 9; digit++) {
                one(USUAL, group[0] + digit * group[1], 0);
            }
        }
    }

    // ---- simulations

    private static void roundsOnACopy() {
        Scene.Calls[] runs = {x -> { }, Scene.then(loaded(COARSE), x -> x.press(true)),
            Scene.then(loaded("G031000990+5020x0777"), x -> x.pause(1))};
        for (Scene.Calls run : runs) {
            for (long seed : new long[] {0, 1, Long.MIN_VALUE}) {
                C.unchanged("simulate(" + seed + ", 99)", run, x -> x.simulate(seed, 99));
                MirrorBridge x = Scene.after(run);
                int first = x.simulate(seed, 99);
                C.due("simulate(" + seed + ", 99) again", x.simulate(seed, 99), first);
            }
        }
    }

    /** The rounds told by the other promises, on an object of their own. */
    private static int played(MirrorBridge x, long seed, int m) {
        BigInteger modulus = BigInteger.ONE.shiftLeft(64);
        BigInteger number = BigInteger.valueOf(seed);
        int sum = 0;
        for (int i = 0; i < m; i++) {
            number = number.multiply(BigInteger.valueOf(6364136223846793005L))
                    .add(BigInteger.valueOf(1442695040888963407L)).mod(modulus);
            int r = number.shiftRight(33).intValueExact();
            if (r % 4 == 0) {
                x.set(2, r / 4 % 10000);
            } else if (r % 4 == 1) {
                x.pause(1);
            } else if (x.about(12) == 1) {
                x.free();
            } else {
                sum += x.press(r / 4 % 2 == 1);
            }
        }
        return sum;
    }

    private static void simulated(String text, long seed, int m) {
        C.due("simulate(" + seed + ", " + m + ") of " + text, Check.bridge(text).simulate(seed, m),
                played(Check.bridge(text), seed, m));
    }

    private static void anySeed() {
        long[] seeds = {0, 1, -1, Integer.MIN_VALUE, Integer.MAX_VALUE, 1L << 32, Long.MIN_VALUE, Long.MIN_VALUE + 1,
            Long.MAX_VALUE, Long.MAX_VALUE - 1};
        for (long seed : seeds) {
            for (int m : new int[] {1, 2, 99}) {
                simulated(USUAL, seed, m);
                simulated(COARSE, seed, m);
            }
        }
    }

    private static void longOverflow() {
        // 400 seeds: their products with the factor overflow to both sides, and r is never below 0
        for (long k = 0; k < 200; k++) {
            simulated(USUAL, (Long.MAX_VALUE / 200) * k, 3);
            simulated(USUAL, (Long.MIN_VALUE / 200) * k, 3);
        }
    }

    private static void quarters() {
        // what the first round does to the second one, for each rest of r
        int[] seen = new int[4];
        for (long seed = 0; seed < 64; seed++) {
            int r = (int) ((seed * 6364136223846793005L + 1442695040888963407L) >>> 33);
            seen[r % 4]++;
            simulated("G221000103+0004x1500", seed, 1);
            simulated("G221000993-2020x1500", seed, 2);
            simulated("G221000993-2020x1500", seed, 12);
        }
        for (int rest = 0; rest < 4; rest++) {
            C.due("whether the rest " + rest + " was among them", seen[rest] > 0 ? 1 : 0, 1);
        }
    }

    private static void freedInstead() {
        // the galvanometer sticks at each press; no reading is made when it is freed
        for (long seed = 0; seed < 20; seed++) {
            for (int m : new int[] {1, 2, 3, 20, 99}) {
                simulated("G001000100+0020x0004", seed, m);
                MirrorBridge stuck = Check.bridge(COARSE);
                MirrorBridge other = Check.bridge(COARSE);
                stuck.press(false);
                other.press(false);
                C.due("simulate(" + seed + ", " + m + ") when it sticks", stuck.simulate(seed, m),
                        played(other, seed, m));
            }
        }
        // r % 4 of the seed 0 is 2 or 3: it is freed in the first round
        MirrorBridge stuck = Check.bridge(COARSE);
        stuck.press(false);
        C.due("simulate(0, 1) when it sticks", stuck.simulate(0, 1), 0);
        C.due("simulate(0, 1) when it is free", Check.bridge(COARSE).simulate(0, 1), -500);
    }

    private static void rounds() {
        for (int m : new int[] {1, 98, 99}) {
            simulated(USUAL, 5, m);
        }
        for (int m : new int[] {0, 100, -1, Integer.MIN_VALUE, Integer.MAX_VALUE}) {
            C.refusedAfter("simulate(5, " + m + ")", ARGUMENT, loaded(USUAL), x -> x.simulate(5, m));
        }
    }
}
