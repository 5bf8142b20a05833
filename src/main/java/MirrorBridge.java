/**
 * A bridge with a mirror galvanometer. What each call must do stands in the
 * document's promises; the names of its terms are used here too.
 */
public final class MirrorBridge {
    public static final int NONE = -9999;

    private static final int MAX_TEXT = 60;
    private static final int MAX_UNKNOWNS = 6;
    private static final int MAX_OHMS = 9999;
    private static final int MAX_WARMTH = 9999;
    private static final int MAX_WAITS = 200;
    private static final int MAX_PAST = 14;
    private static final int SLOTS = 2;
    private static final int SCALE_END = 500;
    private static final int OVERLOAD = 5000;
    private static final int FREEING_TICKS = 5;
    private static final int GROUP = 100000;

    private final Text text = new Text();
    private final State state = new State();
    /** The copy on which forecasts, scripts and simulations run. */
    private final State trial = new State();

    /** A ring of the remembered states. */
    private final State[] past = new State[MAX_PAST];
    private int pastCount;
    private int pastNext;

    private final State[] slots = new State[SLOTS];
    private final boolean[] filled = new boolean[SLOTS];

    public MirrorBridge() {
        for (int i = 0; i < past.length; i++) {
            past[i] = new State();
        }
        for (int i = 0; i < slots.length; i++) {
            slots[i] = new State();
        }
    }

    // ---- text

    public int append(int c) throws IllegalArgumentException, IllegalStateException {
        if (outside(c, 0, 255)) {
            throw new IllegalArgumentException("c is not 0 to 255");
        }
        if (text.length >= MAX_TEXT) {
            throw new IllegalStateException("the text is full");
        }
        text.put((char) c);
        return text.length;
    }

    public int clearText() {
        int previous = text.length;
        text.length = 0;
        return previous;
    }

    public int errorPosition() {
        return text.firstError();
    }

    public int load() throws IllegalStateException {
        if (text.firstError() != NONE) {
            throw new IllegalStateException("the text has an error");
        }
        state.take(text);
        forgetPast();
        for (int i = 0; i < filled.length; i++) {
            filled[i] = false;
        }
        return state.unknowns;
    }

    // ---- what there is

    public int about(int what) throws IllegalArgumentException {
        if (outside(what, 0, 15)) {
            throw new IllegalArgumentException("what is not 0 to 15");
        }
        return state.number(what);
    }

    public int told(int j, int what) throws IllegalArgumentException {
        if (j < 0 || outside(what, 0, Ledger.WIDTH - 1)) {
            throw new IllegalArgumentException("j is negative or what is not 0 to 3");
        }
        return state.ledger.cell(j, what);
    }

    public int bridge(int what) throws IllegalArgumentException {
        if (outside(what, 0, 4)) {
            throw new IllegalArgumentException("what is not 0 to 4");
        }
        switch (what) {
            case 0:
                return state.difference(state.r);
            case 1:
                return state.denominator(state.r);
            case 2:
                return deflectionWith(state.r);
            case 3:
                return state.offset() + deflectionWith(state.r);
            default:
                return state.offset() - deflectionWith(state.r);
        }
    }

    // ---- actions

    public int press(boolean reversed) throws IllegalStateException {
        if (state.sticks) {
            throw new IllegalStateException("the galvanometer sticks");
        }
        remember();
        return state.pressKey(reversed);
    }

    public int pair() throws IllegalStateException {
        if (state.sticks) {
            throw new IllegalStateException("the galvanometer sticks");
        }
        remember();
        return state.pressBothWays();
    }

    public int pause(int m) throws IllegalArgumentException {
        if (outside(m, 1, MAX_WAITS)) {
            throw new IllegalArgumentException("m is not 1 to 200");
        }
        remember();
        state.waitTicks(m);
        return state.offset();
    }

    public int set(int what, int v) throws IllegalArgumentException {
        if (!State.mayBe(what, v)) {
            throw new IllegalArgumentException("what or v is out of range");
        }
        remember();
        int previous = state.number(what);
        state.change(what, v);
        return previous;
    }

    public int choose(int i) throws IndexOutOfBoundsException {
        if (!state.hasUnknown(i)) {
            throw new IndexOutOfBoundsException("no such unknown resistor");
        }
        remember();
        int previous = state.chosen;
        state.chosen = i;
        return previous;
    }

    public int add(int ohms) throws IllegalArgumentException, IllegalStateException {
        if (outside(ohms, 1, MAX_OHMS)) {
            throw new IllegalArgumentException("ohms is not 1 to 9999");
        }
        if (state.unknowns >= MAX_UNKNOWNS) {
            throw new IllegalStateException("there are 6 unknown resistors");
        }
        remember();
        state.putUnknown(ohms);
        return state.unknowns - 1;
    }

    public int free() {
        remember();
        int stuck = state.sticks ? 1 : 0;
        state.loosen();
        return stuck;
    }

    public int balance() throws IllegalStateException {
        if (state.sticks) {
            throw new IllegalStateException("the galvanometer sticks");
        }
        remember();
        state.balanceBox();
        return state.r;
    }

    public int undo() throws IllegalStateException {
        if (pastCount <= 0) {
            throw new IllegalStateException("no state is remembered");
        }
        pastNext = pastNext > 0 ? pastNext - 1 : MAX_PAST - 1;
        pastCount--;
        state.copyFrom(entry(past, pastNext));
        return pastCount;
    }

    // ---- values

    public int value(int limit) throws IllegalArgumentException {
        if (outside(limit, 0, 2)) {
            throw new IllegalArgumentException("limit is not 0 to 2");
        }
        int product = power(state.p) * state.r;
        int q = power(state.q);
        switch (limit) {
            case 0:
                return quotient(2 * product + q, 2 * q);
            case 1:
                return quotient(product + q - 1, q);
            default:
                return quotient(product, q);
        }
    }

    public int bestR(int i) throws IndexOutOfBoundsException {
        if (!state.hasUnknown(i)) {
            throw new IndexOutOfBoundsException("no such unknown resistor");
        }
        int p = power(state.p);
        int target = power(state.q) * state.ohmsOf(i);
        int below = Math.min(MAX_OHMS, quotient(target, p));
        int above = Math.min(MAX_OHMS, below + 1);
        return Math.abs(target - p * above) < Math.abs(target - p * below) ? above : below;
    }

    public int bestArms(int i) throws IndexOutOfBoundsException {
        if (!state.hasUnknown(i)) {
            throw new IndexOutOfBoundsException("no such unknown resistor");
        }
        // X itself is at most 9999, so that the best Q / P is at least 1; among
        // the arms with this Q / P, those with the index 0 of P are told
        int q = 0;
        for (int next = 1; next <= 3; next++) {
            if (state.ohmsOf(i) * power(next) <= MAX_OHMS) {
                q = next;
            }
        }
        return q;
    }

    public int enoughShunt() {
        int n = state.difference(state.r);
        int d = state.denominator(state.r);
        int offset = state.offset();
        for (int index = 0; index <= 3; index++) {
            int forward = state.deflection(n, d, index);
            if (!outside(offset + forward, -SCALE_END, SCALE_END)
                    && !outside(offset - forward, -SCALE_END, SCALE_END)) {
                return index;
            }
        }
        return NONE;
    }

    public int sensitivity() {
        int here = deflectionWith(state.r);
        int greatest = 0;
        if (state.r < MAX_OHMS) {
            greatest = Math.abs(deflectionWith(state.r + 1) - here);
        }
        if (state.r > 0) {
            greatest = Math.max(greatest, Math.abs(deflectionWith(state.r - 1) - here));
        }
        return greatest;
    }

    // ---- forecasts

    public int offsetAfter(int presses, int waits) throws IllegalArgumentException {
        if (outside(presses, 0, 99) || outside(waits, 0, MAX_WAITS)) {
            throw new IllegalArgumentException("presses or waits is out of range");
        }
        int warmth = state.warmth;
        for (int i = 0; i < presses; i++) {
            warmth = State.warmed(warmth, state.e);
        }
        for (int i = 0; i < waits; i++) {
            warmth = State.cooled(warmth);
        }
        return state.offsetAt(warmth);
    }

    public int waitFor(int offset) throws IllegalArgumentException {
        if (outside(offset, -50, 300)) {
            throw new IllegalArgumentException("offset is not -50 to 300");
        }
        int warmth = state.warmth;
        for (int ticks = 0; ticks <= MAX_WAITS; ticks++) {
            if (state.offsetAt(warmth) <= offset) {
                return ticks;
            }
            warmth = State.cooled(warmth);
        }
        return NONE;
    }

    public int balanced(int what) throws IllegalArgumentException {
        if (outside(what, 0, 3)) {
            throw new IllegalArgumentException("what is not 0 to 3");
        }
        trial.copyFrom(state);
        trial.sticks = false;
        trial.balanceBox();
        switch (what) {
            case 0:
                return trial.r;
            case 1:
                return trial.presses - state.presses;
            case 2:
                return trial.warmth;
            default:
                return trial.sticks ? 1 : 0;
        }
    }

    // ---- scripts, simulations

    public int runScript(int n, long script) throws IllegalArgumentException {
        if (outside(n, 1, 3)) {
            throw new IllegalArgumentException("n is not 1 to 3");
        }
        if (script < 0 || withoutLast(script, n) != 0) {
            throw new IllegalArgumentException("script is negative or too long");
        }
        trial.copyFrom(state);
        for (int k = 0; k < n; k++) {
            if (!succeeds((int) (withoutLast(script, n - 1 - k) % GROUP))) {
                return k;
            }
        }
        return NONE;
    }

    public int simulate(long seed, int m) throws IllegalArgumentException {
        if (outside(m, 1, 99)) {
            throw new IllegalArgumentException("m is not 1 to 99");
        }
        trial.copyFrom(state);
        long x = seed;
        int sum = 0;
        for (int round = 0; round < m; round++) {
            x = x * 6364136223846793005L + 1442695040888963407L;
            sum += playRound((int) (x >>> 33));
        }
        return sum;
    }

    // ---- save slots

    public int save(int slot) throws IndexOutOfBoundsException {
        if (outside(slot, 0, SLOTS - 1) || slot >= filled.length) {
            throw new IndexOutOfBoundsException("no such save slot");
        }
        State kept = entry(slots, slot);
        if (kept != null) {
            kept.copyFrom(state);
        }
        filled[slot] = true;
        return state.clock;
    }

    public int restore(int slot) throws IndexOutOfBoundsException, IllegalStateException {
        if (outside(slot, 0, SLOTS - 1) || slot >= filled.length) {
            throw new IndexOutOfBoundsException("no such save slot");
        }
        if (!filled[slot]) {
            throw new IllegalStateException("nothing has been saved in this slot");
        }
        state.copyFrom(entry(slots, slot));
        forgetPast();
        return state.clock;
    }

    // ---- remembered states

    private void remember() {
        State kept = entry(past, pastNext);
        if (kept != null) {
            kept.copyFrom(state);
        }
        pastNext = pastNext < MAX_PAST - 1 ? pastNext + 1 : 0;
        pastCount = Math.min(MAX_PAST, pastCount + 1);
    }

    private void forgetPast() {
        pastCount = 0;
        pastNext = 0;
    }

    // ---- commands of a script and rounds of a simulation, on the trial state

    private boolean succeeds(int group) {
        int second = group / 1000 % 10;
        int lastFour = group % 10000;
        int lastThree = group % 1000;
        int lastTwo = group % 100;
        switch (group / 10000) {
            case 1:
                return second <= 1 && pressesOften(second == 1, lastThree);
            case 2:
                return second == 0 && waits(lastThree);
            case 3:
                trial.r = lastFour;
                return true;
            case 4:
                // below 100, so that the third digit is 0
                return second != 2 && lastThree < 100 && changes(second, lastTwo);
            case 5:
                return lastThree == 0 && puts(second);
            case 6:
                if (lastFour != 0 || trial.sticks) {
                    return false;
                }
                trial.balanceBox();
                return true;
            case 7:
                return trial.r == lastFour;
            case 8:
                return second <= 1 && trial.ledger.size > 0
                        && trial.ledger.cell(0, 0) == (second == 1 ? -lastThree : lastThree);
            case 9:
                return second <= 1 && lastThree < 100
                        && trial.offset() <= (second == 1 ? -lastTwo : lastTwo);
            default:
                return false;
        }
    }

    private boolean pressesOften(boolean reversed, int times) {
        if (outside(times, 1, 99)) {
            return false;
        }
        for (int i = 0; i < times; i++) {
            if (trial.sticks) {
                return false;
            }
            trial.pressKey(reversed);
        }
        return true;
    }

    private boolean waits(int ticks) {
        if (outside(ticks, 1, MAX_WAITS)) {
            return false;
        }
        trial.waitTicks(ticks);
        return true;
    }

    private boolean changes(int what, int v) {
        if (!State.mayBe(what, v)) {
            return false;
        }
        trial.change(what, v);
        return true;
    }

    private boolean puts(int i) {
        if (!trial.hasUnknown(i)) {
            return false;
        }
        trial.chosen = i;
        return true;
    }

    /** Returns the reading of this round, 0 if none is made. */
    private int playRound(int random) {
        int rest = random / 4;
        switch (random % 4) {
            case 0:
                trial.r = rest % 10000;
                return 0;
            case 1:
                trial.waitTicks(1);
                return 0;
            default:
                if (trial.sticks) {
                    trial.loosen();
                    return 0;
                }
                return trial.pressKey(rest % 2 == 1);
        }
    }

    // ---- small helpers

    /** The true deflection, key forward, if the box had this R. */
    private int deflectionWith(int box) {
        return state.deflection(state.difference(box), state.denominator(box), state.shunt);
    }

    private static boolean outside(int v, int least, int greatest) {
        return v < least || v > greatest;
    }

    /** 10 to the power of an index 0 to 3. */
    private static int power(int index) {
        switch (index) {
            case 0:
                return 1;
            case 1:
                return 10;
            case 2:
                return 100;
            default:
                return 1000;
        }
    }

    private static int quotient(int a, int b) {
        return b == 0 ? 0 : a / b;
    }

    /** The script without as many of its last groups. */
    private static long withoutLast(long script, int groups) {
        long rest = script;
        for (int i = 0; i < groups; i++) {
            rest /= GROUP;
        }
        return rest;
    }

    private static State entry(State[] row, int i) {
        return i >= 0 && i < row.length ? row[i] : null;
    }

    /** The text buffer and the rules for a text. */
    private static final class Text {
        private static final int FIRST_UNKNOWN = 15;
        private static final int UNKNOWN_WIDTH = 5;

        private final char[] letters = new char[MAX_TEXT];
        private int length;

        private void put(char c) {
            if (length >= 0 && length < letters.length) {
                letters[length] = c;
                length++;
            }
        }

        private char letter(int i) {
            return i >= 0 && i < length && i < letters.length ? letters[i] : (char) 0;
        }

        private int firstError() {
            for (int i = 0; i < length; i++) {
                if (!fits(i)) {
                    return i;
                }
            }
            int tail = length - FIRST_UNKNOWN;
            return tail > 0 && tail % UNKNOWN_WIDTH == 0 ? NONE : length;
        }

        /** Whether the letter at i is allowed there, if all ahead of it are. */
        private boolean fits(int i) {
            char c = letter(i);
            switch (i) {
                case 0:
                    return c == 'G';
                case 1:
                case 2:
                case 9:
                    return isDigit(c, '3');
                case 8:
                    return isDigit(c, '9') && digits(7, 2) > 0;
                case 10:
                    return c == '+' || c == '-';
                case 11:
                    return isDigit(c, '5');
                case 12:
                    return isDigit(c, '9') && digits(11, 2) <= 50;
                case 13:
                    return isDigit(c, '2');
                case 14:
                    return isDigit(c, '9') && digits(13, 2) <= 20;
                default:
                    return i < FIRST_UNKNOWN ? isDigit(c, '9') : fitsUnknown(i, c);
            }
        }

        private boolean fitsUnknown(int i, char c) {
            int tail = i - FIRST_UNKNOWN;
            if (tail >= MAX_UNKNOWNS * UNKNOWN_WIDTH) {
                return false;
            }
            switch (tail % UNKNOWN_WIDTH) {
                case 0:
                    return c == 'x';
                case 4:
                    return isDigit(c, '9') && digits(i - 3, 4) > 0;
                default:
                    return isDigit(c, '9');
            }
        }

        private static boolean isDigit(char c, char greatest) {
            return c >= '0' && c <= greatest;
        }

        /** The number with these digits; those ahead of the last one have been checked. */
        private int digits(int from, int width) {
            int number = 0;
            for (int i = 0; i < width; i++) {
                number = 10 * number + letter(from + i) - '0';
            }
            return number;
        }

        private int unknowns() {
            return (length - FIRST_UNKNOWN) / UNKNOWN_WIDTH;
        }

        private int unknownAt(int i) {
            return digits(FIRST_UNKNOWN + UNKNOWN_WIDTH * i + 1, 4);
        }
    }

    /** The last readings, in a ring of rows of four cells. */
    private static final class Ledger {
        private static final int ROWS = 20;
        private static final int WIDTH = 4;

        private final int[] cells = new int[ROWS * WIDTH];
        private int size;
        private int next;

        private void write(int reading, int way, int r, int clock) {
            int first = next * WIDTH;
            if (first >= 0 && first + 3 < cells.length) {
                cells[first] = reading;
                cells[first + 1] = way;
                cells[first + 2] = r;
                cells[first + 3] = clock;
            }
            next = next < ROWS - 1 ? next + 1 : 0;
            size = Math.min(ROWS, size + 1);
        }

        /** A number of the j-th latest reading; NONE if there is none. */
        private int cell(int j, int what) {
            if (j < 0 || j >= size) {
                return NONE;
            }
            int row = (next + ROWS - 1 - j) % ROWS;
            int i = row * WIDTH + what;
            return i >= 0 && i < cells.length ? cells[i] : NONE;
        }

        private void wipe() {
            size = 0;
            next = 0;
        }

        private void copyFrom(Ledger other) {
            size = other.size;
            next = other.next;
            for (int i = 0; i < cells.length && i < other.cells.length; i++) {
                cells[i] = other.cells[i];
            }
        }
    }

    /** The state: all that actions change and undo brings back. */
    private static final class State {
        private int p = 2;
        private int q = 2;
        private int r = 1000;
        private int e = 10;
        private int shunt = 3;
        private int steady;
        private int drift = 4;
        private int warmth;
        private int clock;
        private boolean sticks;
        private int presses;
        private int overloads;
        private final int[] ohms = new int[MAX_UNKNOWNS];
        private int unknowns;
        private int chosen;
        private final Ledger ledger = new Ledger();

        private State() {
            putUnknown(1500);
        }

        private void copyFrom(State other) {
            if (other == null) {
                return;
            }
            p = other.p;
            q = other.q;
            r = other.r;
            e = other.e;
            shunt = other.shunt;
            steady = other.steady;
            drift = other.drift;
            warmth = other.warmth;
            clock = other.clock;
            sticks = other.sticks;
            presses = other.presses;
            overloads = other.overloads;
            for (int i = 0; i < ohms.length && i < other.ohms.length; i++) {
                ohms[i] = other.ohms[i];
            }
            unknowns = other.unknowns;
            chosen = other.chosen;
            ledger.copyFrom(other.ledger);
        }

        /** Becomes what a text without an error tells. */
        private void take(Text text) {
            p = text.digits(1, 1);
            q = text.digits(2, 1);
            r = text.digits(3, 4);
            e = text.digits(7, 2);
            shunt = text.digits(9, 1);
            steady = text.letter(10) == '-' ? -text.digits(11, 2) : text.digits(11, 2);
            drift = text.digits(13, 2);
            warmth = 0;
            clock = 0;
            sticks = false;
            presses = 0;
            overloads = 0;
            unknowns = 0;
            for (int i = 0; i < text.unknowns() && i < MAX_UNKNOWNS; i++) {
                putUnknown(text.unknownAt(i));
            }
            chosen = 0;
            ledger.wipe();
        }

        /** The number that about() calls what. */
        private int number(int what) {
            switch (what) {
                case 0:
                    return p;
                case 1:
                    return q;
                case 2:
                    return r;
                case 3:
                    return e;
                case 4:
                    return shunt;
                case 5:
                    return steady;
                case 6:
                    return drift;
                case 7:
                    return warmth;
                case 8:
                    return offset();
                case 9:
                    return clock;
                case 10:
                    return unknowns;
                case 11:
                    return chosen;
                case 12:
                    return sticks ? 1 : 0;
                case 13:
                    return ledger.size;
                case 14:
                    return presses;
                default:
                    return overloads;
            }
        }

        /** Whether set() allows v for the number what. */
        private static boolean mayBe(int what, int v) {
            switch (what) {
                case 0:
                case 1:
                case 4:
                    return v >= 0 && v <= 3;
                case 2:
                    return v >= 0 && v <= MAX_OHMS;
                case 3:
                    return v >= 1 && v <= 99;
                case 5:
                    return v >= -50 && v <= 50;
                case 6:
                    return v >= 0 && v <= 20;
                default:
                    return false;
            }
        }

        private void change(int what, int v) {
            switch (what) {
                case 0:
                    p = v;
                    break;
                case 1:
                    q = v;
                    break;
                case 2:
                    r = v;
                    break;
                case 3:
                    e = v;
                    break;
                case 4:
                    shunt = v;
                    break;
                case 5:
                    steady = v;
                    break;
                default:
                    drift = v;
                    break;
            }
        }

        private boolean hasUnknown(int i) {
            return i >= 0 && i < unknowns;
        }

        private int ohmsOf(int i) {
            return i >= 0 && i < ohms.length ? ohms[i] : 0;
        }

        private void putUnknown(int resistance) {
            if (unknowns >= 0 && unknowns < ohms.length) {
                ohms[unknowns] = resistance;
                unknowns++;
            }
        }

        /** N, if the box had this R. */
        private int difference(int box) {
            return power(q) * ohmsOf(chosen) - power(p) * box;
        }

        /** D, if the box had this R. */
        private int denominator(int box) {
            return (power(p) + power(q)) * (ohmsOf(chosen) + box);
        }

        /** The true deflection, key forward, with this N and D and this index of the shunt. */
        private int deflection(int n, int d, int index) {
            int shuntedBy = power(index);
            if (d == 0 || shuntedBy == 0) {
                return 0;
            }
            return (int) (100000L * e * n / d / shuntedBy);
        }

        private int offset() {
            return offsetAt(warmth);
        }

        private int offsetAt(int someWarmth) {
            return steady + someWarmth * drift / 100;
        }

        private static int warmed(int someWarmth, int battery) {
            return Math.min(MAX_WARMTH, someWarmth + battery);
        }

        private static int cooled(int someWarmth) {
            return Math.max(0, someWarmth - (someWarmth / 10 + 1));
        }

        /** Only for a galvanometer that is free. */
        private int pressKey(boolean reversed) {
            int way = reversed ? -1 : 1;
            int raw = way * deflection(difference(r), denominator(r), shunt) + offset();
            int reading = Math.max(-SCALE_END, Math.min(SCALE_END, raw));
            ledger.write(reading, way, r, clock);
            presses++;
            if (raw < -OVERLOAD || raw > OVERLOAD) {
                sticks = true;
                overloads++;
            }
            warmth = warmed(warmth, e);
            clock++;
            return reading;
        }

        /** Only for a galvanometer that is free. */
        private int pressBothWays() {
            int first = pressKey(false);
            return sticks ? first : first - pressKey(true);
        }

        private void waitTicks(int ticks) {
            for (int i = 0; i < ticks; i++) {
                warmth = cooled(warmth);
                clock++;
            }
        }

        private void loosen() {
            sticks = false;
            waitTicks(FREEING_TICKS);
        }

        /** Only for a galvanometer that is free. */
        private void balanceBox() {
            r = 0;
            for (int index = 3; index >= 0 && !sticks; index--) {
                int decade = power(index);
                // one decade may be taken more than nine times, as the offset drifts
                for (int i = 0; i < MAX_OHMS && r + decade <= MAX_OHMS; i++) {
                    r += decade;
                    int result = pressBothWays();
                    if (sticks) {
                        break;
                    }
                    if (result < 0) {
                        r -= decade;
                        break;
                    }
                }
            }
        }
    }
}
