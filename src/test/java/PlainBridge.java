import java.math.BigDecimal;
import java.math.BigInteger;
import java.math.RoundingMode;
import java.util.ArrayDeque;
import java.util.ArrayList;
import java.util.Deque;
import java.util.List;
import java.util.regex.Matcher;
import java.util.regex.Pattern;

/**
 * The document told a second time, as plainly as the Java library lets it be told: whole states
 * are copied, whatever can be searched for is searched for. ModelTest lays MirrorBridge beside it.
 */
final class PlainBridge {
    static final int NONE = -9999;
    private static final Pattern TEXT = Pattern.compile(
            "G[0-3][0-3][0-9]{4}(0[1-9]|[1-9][0-9])[0-3][+-]([0-4][0-9]|50)([01][0-9]|20)"
            + "(x(000[1-9]|00[1-9][0-9]|0[1-9][0-9][0-9]|[1-9][0-9][0-9][0-9])){1,6}");
    private static final int[][] RANGES = {{0, 3}, {0, 3}, {0, 9999}, {1, 99}, {0, 3}, {-50, 50}, {0, 20}};

    private static final class World {
        int[] numbers = {2, 2, 1000, 10, 3, 0, 4};
        int warmth;
        int clock;
        int presses;
        int overloads;
        boolean stuck;
        int inBridge;
        List<Integer> ohms = new ArrayList<>(List.of(1500));
        /** The latest one first. */
        List<int[]> ledger = new ArrayList<>();

        World copy() {
            World w = new World();
            w.numbers = numbers.clone();
            w.warmth = warmth;
            w.clock = clock;
            w.presses = presses;
            w.overloads = overloads;
            w.stuck = stuck;
            w.inBridge = inBridge;
            w.ohms = new ArrayList<>(ohms);
            w.ledger = new ArrayList<>(ledger);
            return w;
        }
    }

    private String text = "";
    private World now = new World();
    private final Deque<World> past = new ArrayDeque<>();
    private final World[] slots = new World[2];

    private static void argument(boolean good) {
        if (!good) {
            throw new IllegalArgumentException();
        }
    }

    private static void index(boolean good) {
        if (!good) {
            throw new IndexOutOfBoundsException();
        }
    }

    private static void state(boolean good) {
        if (!good) {
            throw new IllegalStateException();
        }
    }

    private static boolean in(int v, int least, int greatest) {
        return least <= v && v <= greatest;
    }

    private static BigInteger ten(int index) {
        return BigInteger.TEN.pow(index);
    }

    private void action() {
        past.addLast(now.copy());
        while (past.size() > 14) {
            past.removeFirst();
        }
    }

    int append(int c) {
        argument(in(c, 0, 255));
        state(text.length() < 60);
        text += (char) c;
        return text.length();
    }

    int clearText() {
        int length = text.length();
        text = "";
        return length;
    }

    int errorPosition() {
        for (int length = 1; length <= text.length(); length++) {
            Matcher m = TEXT.matcher(text.substring(0, length));
            if (!m.matches() && !m.hitEnd()) {
                return length - 1;
            }
        }
        return TEXT.matcher(text).matches() ? NONE : text.length();
    }

    int load() {
        state(errorPosition() == NONE);
        World w = new World();
        w.numbers[0] = Integer.parseInt(text.substring(1, 2));
        w.numbers[1] = Integer.parseInt(text.substring(2, 3));
        w.numbers[2] = Integer.parseInt(text.substring(3, 7));
        w.numbers[3] = Integer.parseInt(text.substring(7, 9));
        w.numbers[4] = Integer.parseInt(text.substring(9, 10));
        w.numbers[5] = Integer.parseInt(text.substring(10, 13));
        w.numbers[6] = Integer.parseInt(text.substring(13, 15));
        w.ohms.clear();
        for (String ohms : text.substring(16).split("x")) {
            w.ohms.add(Integer.parseInt(ohms));
        }
        now = w;
        past.clear();
        slots[0] = null;
        slots[1] = null;
        return w.ohms.size();
    }

    int about(int what) {
        argument(in(what, 0, 15));
        if (what <= 6) {
            return now.numbers[what];
        }
        int[] others = {now.warmth, offset(now.warmth), now.clock, now.ohms.size(), now.inBridge,
            now.stuck ? 1 : 0, now.ledger.size(), now.presses, now.overloads};
        return others[what - 7];
    }

    int told(int j, int what) {
        argument(j >= 0 && in(what, 0, 3));
        return j < now.ledger.size() ? now.ledger.get(j)[what] : NONE;
    }

    private int offset(int warmth) {
        return now.numbers[5] + Math.floorDiv(warmth * now.numbers[6], 100);
    }

    private BigInteger n(int ohms, int box) {
        return ten(now.numbers[1]).multiply(BigInteger.valueOf(ohms))
                .subtract(ten(now.numbers[0]).multiply(BigInteger.valueOf(box)));
    }

    private BigInteger d(int box) {
        return ten(now.numbers[0]).add(ten(now.numbers[1]))
                .multiply(BigInteger.valueOf(now.ohms.get(now.inBridge) + box));
    }

    private int trueDeflection(int box, int shunt) {
        // BigInteger divides toward 0
        return BigInteger.valueOf(100000).multiply(BigInteger.valueOf(now.numbers[3]))
                .multiply(n(now.ohms.get(now.inBridge), box)).divide(d(box)).divide(ten(shunt)).intValueExact();
    }

    private int raw(boolean reversed, int shunt) {
        int forward = trueDeflection(now.numbers[2], shunt);
        return (reversed ? -forward : forward) + offset(now.warmth);
    }

    int bridge(int what) {
        argument(in(what, 0, 4));
        switch (what) {
            case 0: return n(now.ohms.get(now.inBridge), now.numbers[2]).intValueExact();
            case 1: return d(now.numbers[2]).intValueExact();
            case 2: return trueDeflection(now.numbers[2], now.numbers[4]);
            case 3: return raw(false, now.numbers[4]);
            default: return raw(true, now.numbers[4]);
        }
    }

    private int reading(boolean reversed) {
        state(!now.stuck);
        int raw = raw(reversed, now.numbers[4]);
        int value = raw > 500 ? 500 : raw < -500 ? -500 : raw;
        now.ledger.add(0, new int[] {value, reversed ? -1 : 1, now.numbers[2], now.clock});
        if (now.ledger.size() > 20) {
            now.ledger.remove(20);
        }
        now.presses++;
        if (raw < -5000 || raw > 5000) {
            now.stuck = true;
            now.overloads++;
        }
        now.warmth = hotter(now.warmth);
        now.clock++;
        return value;
    }

    private int hotter(int warmth) {
        return Math.min(9999, warmth + now.numbers[3]);
    }

    private static int colder(int warmth) {
        int less = warmth - warmth / 10 - 1;
        return less < 0 ? 0 : less;
    }

    private int readings() {
        int first = reading(false);
        return now.stuck ? first : first - reading(true);
    }

    private void ticks(int m) {
        for (int i = 0; i < m; i++) {
            now.warmth = colder(now.warmth);
            now.clock++;
        }
    }

    int press(boolean reversed) {
        state(!now.stuck);
        action();
        return reading(reversed);
    }

    int pair() {
        state(!now.stuck);
        action();
        return readings();
    }

    int pause(int m) {
        argument(in(m, 1, 200));
        action();
        ticks(m);
        return offset(now.warmth);
    }

    int set(int what, int v) {
        argument(in(what, 0, 6) && in(v, RANGES[what][0], RANGES[what][1]));
        action();
        int previous = now.numbers[what];
        now.numbers[what] = v;
        return previous;
    }

    int choose(int i) {
        index(in(i, 0, now.ohms.size() - 1));
        action();
        int previous = now.inBridge;
        now.inBridge = i;
        return previous;
    }

    int add(int ohms) {
        argument(in(ohms, 1, 9999));
        state(now.ohms.size() < 6);
        action();
        now.ohms.add(ohms);
        return now.ohms.size() - 1;
    }

    int free() {
        action();
        int was = now.stuck ? 1 : 0;
        now.stuck = false;
        ticks(5);
        return was;
    }

    int balance() {
        state(!now.stuck);
        action();
        balanceNow();
        return now.numbers[2];
    }

    private void balanceNow() {
        now.numbers[2] = 0;
        for (int decade : new int[] {1000, 100, 10, 1}) {
            boolean go = true;
            while (go && now.numbers[2] + decade <= 9999) {
                now.numbers[2] += decade;
                int result = readings();
                if (now.stuck) {
                    return;
                }
                if (result < 0) {
                    now.numbers[2] -= decade;
                    go = false;
                }
            }
        }
    }

    int undo() {
        state(!past.isEmpty());
        now = past.removeLast();
        return past.size();
    }

    int value(int limit) {
        argument(in(limit, 0, 2));
        RoundingMode[] modes = {RoundingMode.HALF_UP, RoundingMode.CEILING, RoundingMode.FLOOR};
        return new BigDecimal(ten(now.numbers[0])).multiply(BigDecimal.valueOf(now.numbers[2]))
                .divide(new BigDecimal(ten(now.numbers[1])), 0, modes[limit]).intValueExact();
    }

    int bestR(int i) {
        index(in(i, 0, now.ohms.size() - 1));
        long p = ten(now.numbers[0]).longValue();
        long product = ten(now.numbers[1]).longValue() * now.ohms.get(i);
        int best = 0;
        for (int r = 1; r <= 9999; r++) {
            if (Math.abs(product - p * r) < Math.abs(product - p * best)) {
                best = r;
            }
        }
        return best;
    }

    int bestArms(int i) {
        index(in(i, 0, now.ohms.size() - 1));
        BigDecimal greatest = BigDecimal.ZERO;
        int best = NONE;
        for (int p = 0; p <= 3; p++) {
            for (int q = 0; q <= 3; q++) {
                BigDecimal ratio = BigDecimal.valueOf(now.ohms.get(i)).movePointRight(q).movePointLeft(p);
                if (ratio.compareTo(BigDecimal.valueOf(9999)) <= 0 && ratio.compareTo(greatest) > 0) {
                    greatest = ratio;
                    best = 10 * p + q;
                }
            }
        }
        return best;
    }

    int enoughShunt() {
        for (int shunt = 0; shunt <= 3; shunt++) {
            if (in(raw(false, shunt), -500, 500) && in(raw(true, shunt), -500, 500)) {
                return shunt;
            }
        }
        return NONE;
    }

    int sensitivity() {
        int best = 0;
        int r = now.numbers[2];
        for (int other : new int[] {r - 1, r + 1}) {
            if (in(other, 0, 9999)) {
                best = Math.max(best, Math.abs(trueDeflection(other, now.numbers[4])
                        - trueDeflection(r, now.numbers[4])));
            }
        }
        return best;
    }

    int offsetAfter(int presses, int waits) {
        argument(in(presses, 0, 99) && in(waits, 0, 200));
        int warmth = now.warmth;
        for (int i = 0; i < presses; i++) {
            warmth = hotter(warmth);
        }
        for (int i = 0; i < waits; i++) {
            warmth = colder(warmth);
        }
        return offset(warmth);
    }

    int waitFor(int offset) {
        argument(in(offset, -50, 300));
        for (int ticks = 0; ticks <= 200; ticks++) {
            if (offsetAfter(0, ticks) <= offset) {
                return ticks;
            }
        }
        return NONE;
    }

    int balanced(int what) {
        argument(in(what, 0, 3));
        World kept = now;
        now = kept.copy();
        now.stuck = false;
        balanceNow();
        int[] answers = {now.numbers[2], now.presses - kept.presses, now.warmth, now.stuck ? 1 : 0};
        now = kept;
        return answers[what];
    }

    int runScript(int n, long script) {
        argument(in(n, 1, 3) && script >= 0 && String.valueOf(script).length() <= 5 * n);
        String digits = String.valueOf(script);
        while (digits.length() < 5 * n) {
            digits = "0" + digits;
        }
        PlainBridge copy = new PlainBridge();
        copy.now = now.copy();
        for (int k = 0; k < n; k++) {
            boolean good;
            try {
                good = copy.command(digits.substring(5 * k, 5 * k + 5));
            } catch (IllegalArgumentException | IllegalStateException | IndexOutOfBoundsException e) {
                good = false;
            }
            if (!good) {
                return k;
            }
        }
        return NONE;
    }

    private boolean command(String c) {
        if (c.matches("1[01]0[0-9][0-9]") && !c.endsWith("000")) {
            for (int i = Integer.parseInt(c.substring(2)); i > 0; i--) {
                press(c.charAt(1) == '1');
            }
        } else if (c.matches("20[0-9]{3}")) {
            pause(Integer.parseInt(c.substring(2)));
        } else if (c.matches("3[0-9]{4}")) {
            set(2, Integer.parseInt(c.substring(1)));
        } else if (c.matches("4[0-9]0[0-9]{2}") && c.charAt(1) != '2') {
            set(c.charAt(1) - '0', Integer.parseInt(c.substring(3)));
        } else if (c.matches("5[0-9]000")) {
            choose(c.charAt(1) - '0');
        } else if (c.equals("60000")) {
            balance();
        } else if (c.matches("7[0-9]{4}")) {
            return now.numbers[2] == Integer.parseInt(c.substring(1));
        } else if (c.matches("8[01][0-9]{3}")) {
            int sign = c.charAt(1) == '1' ? -1 : 1;
            return !now.ledger.isEmpty() && now.ledger.get(0)[0] == sign * Integer.parseInt(c.substring(2));
        } else if (c.matches("9[01]0[0-9]{2}")) {
            int sign = c.charAt(1) == '1' ? -1 : 1;
            return offset(now.warmth) <= sign * Integer.parseInt(c.substring(3));
        } else {
            return false;
        }
        return true;
    }

    int simulate(long seed, int m) {
        argument(in(m, 1, 99));
        PlainBridge copy = new PlainBridge();
        copy.now = now.copy();
        BigInteger x = BigInteger.valueOf(seed);
        int sum = 0;
        for (int i = 0; i < m; i++) {
            x = x.multiply(BigInteger.valueOf(6364136223846793005L)).add(BigInteger.valueOf(1442695040888963407L))
                    .mod(BigInteger.ONE.shiftLeft(64));
            int r = x.shiftRight(33).intValueExact();
            switch (r % 4) {
                case 0: copy.set(2, r / 4 % 10000); break;
                case 1: copy.pause(1); break;
                default:
                    if (copy.now.stuck) {
                        copy.free();
                    } else {
                        sum += copy.press(r / 4 % 2 == 1);
                    }
            }
        }
        return sum;
    }

    int save(int slot) {
        index(in(slot, 0, 1));
        slots[slot] = now.copy();
        return now.clock;
    }

    int restore(int slot) {
        index(in(slot, 0, 1));
        state(slots[slot] != null);
        now = slots[slot].copy();
        past.clear();
        return now.clock;
    }
}
