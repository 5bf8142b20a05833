import java.util.Random;
import java.util.function.IntSupplier;

/** Runs of 512 calls by chance, always the same ones, on MirrorBridge and on PlainBridge. */
final class ModelTest {
    private static final int RUNS = 3000;
    private static final int CALLS = 512;
    private static final Check C = new Check("ModelTest");
    private static final int[] ODD = {Integer.MIN_VALUE, Integer.MAX_VALUE, -1, 10000, -9999, 100, 256};

    private final Random random;
    private final MirrorBridge x = new MirrorBridge();
    private final PlainBridge y = new PlainBridge();
    private int left = CALLS;
    private StringBuilder calls = new StringBuilder();
    private boolean wrong;

    private ModelTest(long seed) {
        random = new Random(seed);
    }

    public static void main(String[] args) {
        int bad = 0;
        for (int run = 0; run < RUNS && bad < 3; run++) {
            ModelTest test = new ModelTest(run);
            test.play();
            C.due("run " + run, test.wrong ? 1 : 0, 0);
            bad += test.wrong ? 1 : 0;
        }
        C.end();
    }

    private static String told(IntSupplier call) {
        try {
            return String.valueOf(call.getAsInt());
        } catch (RuntimeException e) {
            return e.getClass().getName();
        }
    }

    private void both(String call, IntSupplier got, IntSupplier due) {
        if (left == 0 || wrong) {
            return;
        }
        left--;
        String g = told(got);
        String d = told(due);
        calls.append(call).append(" = ").append(d).append('\n');
        if (!g.equals(d)) {
            wrong = true;
            System.out.println(calls);
            System.out.println(call + " answered " + g + ", due is " + d);
        }
    }

    /** A number of this range, or now and then one beside it or far away. */
    private int near(int least, int greatest) {
        switch (random.nextInt(24)) {
            case 0: return least - 1;
            case 1: return greatest + 1;
            case 2: return ODD[random.nextInt(ODD.length)];
            case 3: case 4: return least;
            case 5: case 6: return greatest;
            default: return least + random.nextInt(greatest - least + 1);
        }
    }

    private int within(int least, int greatest) {
        return least + random.nextInt(greatest - least + 1);
    }

    private int ohms() {
        int[] greatest = {9, 99, 999, 9999};
        return within(1, greatest[random.nextInt(4)]);
    }

    private String text() {
        int steady = within(-50, 50);
        StringBuilder s = new StringBuilder(String.format("G%d%d%04d%02d%d%c%02d%02d", within(0, 3), within(0, 3),
                random.nextBoolean() ? ohms() : within(0, 9999), random.nextBoolean() ? within(1, 99) : within(1, 3),
                within(0, 3), steady < 0 ? '-' : '+', Math.abs(steady), within(0, 20)));
        for (int i = within(1, 6); i > 0; i--) {
            s.append(String.format("x%04d", ohms()));
        }
        return s.toString();
    }

    private String spoilt(String text) {
        String signs = "Gx+-0123456789/: \u0000\u00ff";
        int at = random.nextInt(text.length());
        char c = signs.charAt(random.nextInt(signs.length()));
        switch (random.nextInt(4)) {
            case 0: return text.substring(0, at);
            case 1: return text.substring(0, at) + c + text.substring(at);
            case 2: return text + c;
            default: return text.substring(0, at) + c + text.substring(at + 1);
        }
    }

    private void write(String text) {
        both("clearText()", x::clearText, y::clearText);
        for (char c : text.toCharArray()) {
            both("append(" + (int) c + ")", () -> x.append(c), () -> y.append(c));
        }
        both("errorPosition()", x::errorPosition, y::errorPosition);
    }

    private void play() {
        if (random.nextInt(5) > 0) {
            write(text());
            both("load()", x::load, y::load);
        }
        boolean many = random.nextBoolean();
        while (left > 0 && !wrong) {
            int kind = random.nextInt(100);
            if (kind < 45) {
                action();
            } else if (kind < 70) {
                look();
            } else if (kind < 97) {
                forecast();
            } else if (many) {
                texts();
            }
        }
    }

    private void texts() {
        switch (random.nextInt(4)) {
            case 0:
                write(random.nextBoolean() ? text() : spoilt(text()));
                break;
            case 1:
                int c = near(0, 255);
                both("append(" + c + ")", () -> x.append(c), () -> y.append(c));
                both("errorPosition()", x::errorPosition, y::errorPosition);
                break;
            default:
                both("load()", x::load, y::load);
        }
    }

    private void action() {
        switch (random.nextInt(14)) {
            case 0: case 1: case 2:
                boolean reversed = random.nextBoolean();
                both("press(" + reversed + ")", () -> x.press(reversed), () -> y.press(reversed));
                break;
            case 3: case 4:
                both("pair()", x::pair, y::pair);
                break;
            case 5:
                int m = random.nextBoolean() ? near(1, 200) : within(1, 5);
                both("pause(" + m + ")", () -> x.pause(m), () -> y.pause(m));
                break;
            case 6: case 7:
                set();
                break;
            case 8:
                int i = near(0, 5);
                both("choose(" + i + ")", () -> x.choose(i), () -> y.choose(i));
                break;
            case 9:
                int ohms = random.nextBoolean() ? ohms() : near(1, 9999);
                both("add(" + ohms + ")", () -> x.add(ohms), () -> y.add(ohms));
                break;
            case 10:
                if (random.nextInt(3) == 0 || y.about(12) == 1) {
                    both("free()", x::free, y::free);
                }
                break;
            case 11:
                both("balance()", x::balance, y::balance);
                break;
            case 12:
                for (int k = random.nextInt(20) == 0 ? 16 : random.nextInt(4); k > 0; k--) {
                    both("undo()", x::undo, y::undo);
                }
                break;
            default:
                int slot = near(0, 1);
                if (random.nextInt(3) > 0) {
                    both("save(" + slot + ")", () -> x.save(slot), () -> y.save(slot));
                } else {
                    both("restore(" + slot + ")", () -> x.restore(slot), () -> y.restore(slot));
                }
        }
    }

    private void set() {
        int what = near(0, 6);
        int[][] ranges = {{0, 3}, {0, 3}, {0, 9999}, {1, 99}, {0, 3}, {-50, 50}, {0, 20}};
        int[] range = ranges[Math.max(0, Math.min(6, what))];
        int v = near(range[0], range[1]);
        both("set(" + what + ", " + v + ")", () -> x.set(what, v), () -> y.set(what, v));
    }

    private void look() {
        switch (random.nextInt(6)) {
            case 0:
                for (int k = 0; k <= 4; k++) {
                    int what = k;
                    both("bridge(" + what + ")", () -> x.bridge(what), () -> y.bridge(what));
                }
                break;
            case 1:
                int b = near(0, 4);
                both("bridge(" + b + ")", () -> x.bridge(b), () -> y.bridge(b));
                break;
            case 2: case 3:
                int w = near(0, 15);
                both("about(" + w + ")", () -> x.about(w), () -> y.about(w));
                break;
            default:
                int j = near(0, 19);
                int what = near(0, 3);
                both("told(" + j + ", " + what + ")", () -> x.told(j, what), () -> y.told(j, what));
        }
    }

    private void forecast() {
        switch (random.nextInt(10)) {
            case 0:
                int limit = near(0, 2);
                both("value(" + limit + ")", () -> x.value(limit), () -> y.value(limit));
                break;
            case 1:
                int i = near(0, 5);
                both("bestR(" + i + ")", () -> x.bestR(i), () -> y.bestR(i));
                both("bestArms(" + i + ")", () -> x.bestArms(i), () -> y.bestArms(i));
                break;
            case 2:
                both("enoughShunt()", x::enoughShunt, y::enoughShunt);
                break;
            case 3:
                both("sensitivity()", x::sensitivity, y::sensitivity);
                break;
            case 4:
                int presses = near(0, 99);
                int waits = near(0, 200);
                both("offsetAfter(" + presses + ", " + waits + ")", () -> x.offsetAfter(presses, waits),
                        () -> y.offsetAfter(presses, waits));
                break;
            case 5:
                int offset = near(-50, 300);
                both("waitFor(" + offset + ")", () -> x.waitFor(offset), () -> y.waitFor(offset));
                break;
            case 6:
                int what = near(0, 3);
                both("balanced(" + what + ")", () -> x.balanced(what), () -> y.balanced(what));
                break;
            case 7:
                long seed = random.nextInt(3) == 0 ? near(0, 9) : random.nextLong();
                int m = near(1, 99);
                both("simulate(" + seed + ", " + m + ")", () -> x.simulate(seed, m), () -> y.simulate(seed, m));
                break;
            default:
                int n = near(1, 3);
                long script = script(n);
                both("runScript(" + n + ", " + script + ")", () -> x.runScript(n, script),
                        () -> y.runScript(n, script));
        }
    }

    private long script(int n) {
        if (random.nextInt(20) == 0) {
            return random.nextBoolean() ? random.nextLong() : -within(0, 99999);
        }
        long script = 0;
        for (int k = random.nextInt(15) == 0 ? 0 : 1; k <= Math.max(0, Math.min(3, n)); k++) {
            script = script * 100000 + group();
        }
        return script;
    }

    private int group() {
        if (random.nextInt(8) == 0) {
            return random.nextInt(100000);
        }
        int sign = random.nextInt(9) == 0 ? 2 : random.nextInt(2);
        int blank = random.nextInt(12) == 0 ? within(1, 9) : 0;
        switch (within(1, 9)) {
            case 1: return 10000 + sign * 1000 + within(0, 110);
            case 2: return 20000 + blank * 1000 + within(0, 210);
            case 3: return 30000 + within(0, 9999);
            case 4:
                int[] tops = {4, 4, 20, 99, 4, 55, 22, 5, 5, 5};
                int w = within(0, 9);
                return 40000 + w * 1000 + blank * 100 + within(0, tops[w]);
            case 5: return 50000 + within(0, 6) * 1000 + blank * (random.nextBoolean() ? 100 : 1);
            case 6: return 60000 + blank * (random.nextBoolean() ? 1000 : 1);
            case 7: return 70000 + (random.nextInt(3) == 0 ? within(0, 9999) : y.about(2));
            case 8:
                int last = y.about(13) == 0 ? 0 : y.told(0, 0);
                return 80000 + (random.nextInt(3) == 0 ? sign : last < 0 ? 1 : 0) * 1000 + Math.abs(last);
            default:
                int offset = y.about(8) + within(-1, 1);
                return 90000 + (random.nextInt(4) == 0 ? sign : offset < 0 ? 1 : 0) * 1000 + blank * 100
                        + Math.abs(offset) % 100;
        }
    }
}
