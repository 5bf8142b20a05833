/**
 * The boundaries of promises 18 to 25, values and forecasts: a test for each sentence, on both sides
 * of its boundary.
 */
final class ValueEdgesTest {
    private static final Check C = new Check("ValueEdgesTest");
    private static final int NONE = MirrorBridge.NONE;
    private static final Class<?> ARGUMENT = IllegalArgumentException.class;
    private static final Class<?> INDEX = IndexOutOfBoundsException.class;
    private static final String COARSE = "G001000100+0004x1500";

    public static void main(String[] args) {
        values();
        best();
        shuntAndSensitivity();
        forecasts();
        C.end();
    }

    private static void values() {
        String place = "Promise 18";
        C.sentence(place, "0: rounded to the nearest whole number, halves up", ValueEdgesTest::halvesUp);
        C.sentence(place, "1: the smallest whole number X, 0 or more, for which N would not be negative",
                ValueEdgesTest::notNegative);
        C.sentence(place, "2: the greatest one for which N would not be positive", ValueEdgesTest::notPositive);
        C.sentence(place, "if limit is not 0 to 2", ValueEdgesTest::limitRange);
    }

    private static void best() {
        String place = "Promise 19";
        C.sentence(place, "Returns the R from 0 to 9999", ValueEdgesTest::endsOfTheBox);
        C.sentence(place, "the absolute value of N with this resistor and the present P and Q is smallest",
                ValueEdgesTest::smallestN);
        C.sentence(place, "among several the smallest one", ValueEdgesTest::smallestR);
        C.sentence(place, "if there is no such unknown resistor", ValueEdgesTest::noUnknownForR);
        place = "Promise 20";
        C.sentence(place, "X * Q / P (an exact fraction) is at most 9999 and greatest", ValueEdgesTest::greatest);
        C.sentence(place, "among several those with the smaller index of P", ValueEdgesTest::smallerP);
        C.sentence(place, "if there is no such unknown resistor", ValueEdgesTest::noUnknownForArms);
    }

    private static void shuntAndSensitivity() {
        String place = "Promise 21";
        C.sentence(place, "Returns the smallest index with which neither reading of a pair",
                ValueEdgesTest::smallestIndex);
        C.sentence(place, "(the warmth as it is for both)", ValueEdgesTest::warmthAsItIs);
        C.sentence(place, "would be beyond -500 to 500 ahead of its limit", ValueEdgesTest::beyond);
        C.sentence(place, "NONE if there is none", ValueEdgesTest::noShunt);
        place = "Promise 22";
        C.sentence(place, "when R is made greater or smaller by 1 (within its range)", ValueEdgesTest::withinItsRange);
        C.sentence(place, "the greater one of both absolute differences", ValueEdgesTest::greaterDifference);
    }

    private static void forecasts() {
        String place = "Promise 23";
        C.sentence(place, "number of presses, one after the other, 0 to 99 (whatever the galvanometer does)",
                ValueEdgesTest::forecastPresses);
        C.sentence(place, "number of ticks of waiting behind them, 0 to 200", ValueEdgesTest::forecastWaits);
        C.sentence(place, "if presses or waits is out of range", ValueEdgesTest::forecastRanges);
        place = "Promise 24";
        C.sentence(place, "offset`: -50 to 300", ValueEdgesTest::waitForRange);
        C.sentence(place, "the smallest number of ticks of waiting, 0 to 200, after which the offset is at most this one",
                ValueEdgesTest::fewestTicks);
        C.sentence(place, "NONE if there is none", ValueEdgesTest::neverAtMost);
        place = "Promise 25";
        C.sentence(place, "Tells what balance() would lead to", ValueEdgesTest::whatBalanceLeadsTo);
        C.sentence(place, "if the galvanometer were free and the bridge as it is", ValueEdgesTest::asIfFree);
        C.sentence(place, "3: 1 if the galvanometer would stick, 0 if not", ValueEdgesTest::wouldStick);
        C.sentence(place, "if what is not 0 to 3", ValueEdgesTest::balancedRange);
    }

    private static Scene.Calls loaded(String text) {
        return x -> {
            Check.write(x, text);
            x.load();
        };
    }

    private static MirrorBridge arms(int p, int q, int r) {
        MirrorBridge x = new MirrorBridge();
        x.set(0, p);
        x.set(1, q);
        x.set(2, r);
        return x;
    }

    // ---- value

    private static void halvesUp() {
        // P, Q, R, and P * R / Q
        int[][] rows = {{0, 1, 4, 0}, {0, 1, 5, 1}, {0, 1, 6, 1}, {0, 1, 14, 1}, {0, 1, 15, 2}, {0, 1, 24, 2},
            {0, 1, 25, 3}, {0, 2, 49, 0}, {0, 2, 50, 1}, {0, 2, 149, 1}, {0, 2, 150, 2}, {0, 3, 499, 0}, {0, 3, 500, 1},
            {0, 3, 9499, 9}, {0, 3, 9500, 10}, {1, 3, 9949, 99}, {1, 3, 9950, 100}, {1, 2, 9994, 999}, {1, 2, 9995, 1000},
            {2, 2, 0, 0}, {2, 2, 9999, 9999}, {3, 0, 0, 0}, {3, 0, 9999, 9999000}, {0, 3, 0, 0}};
        for (int[] row : rows) {
            C.due("value(0) with R " + row[2], arms(row[0], row[1], row[2]).value(0), row[3]);
        }
    }

    /** N, if X were this one; a text tells X, so that 0 is not among them. */
    private static int n(int p, int q, int r, int ohms) {
        int[] powers = {1, 10, 100, 1000};
        int n = powers[q] * ohms - powers[p] * r;
        if (ohms >= 1 && ohms <= 9999) {
            MirrorBridge x = arms(p, q, r);
            x.choose(x.add(ohms));
            C.due("N", x.bridge(0), n);
        }
        return n;
    }

    private static void notNegative() {
        int[] boxes = {0, 1, 9, 10, 11, 99, 100, 101, 999, 1000, 1001, 9990, 9991, 9999};
        for (int p = 0; p <= 3; p++) {
            for (int q = 0; q <= 3; q++) {
                for (int r : boxes) {
                    int ohms = arms(p, q, r).value(1);
                    C.due("whether value(1) is below 0", ohms < 0 ? 1 : 0, 0);
                    C.due("whether N is negative with " + ohms, n(p, q, r, ohms) < 0 ? 1 : 0, 0);
                    C.due("whether one less is below 0 or has a negative N",
                            ohms == 0 || n(p, q, r, ohms - 1) < 0 ? 1 : 0, 1);
                }
            }
        }
        C.due("value(1) with R 0", arms(0, 3, 0).value(1), 0);
        C.due("value(1) with R 1", arms(0, 3, 1).value(1), 1);
        C.due("value(1) with R 1000", arms(0, 3, 1000).value(1), 1);
        C.due("value(1) with R 1001", arms(0, 3, 1001).value(1), 2);
    }

    private static void notPositive() {
        int[] boxes = {0, 1, 9, 10, 11, 99, 100, 101, 999, 1000, 1001, 9990, 9991, 9999};
        for (int p = 0; p <= 3; p++) {
            for (int q = 0; q <= 3; q++) {
                for (int r : boxes) {
                    int ohms = arms(p, q, r).value(2);
                    C.due("whether N is positive with " + ohms, n(p, q, r, ohms) > 0 ? 1 : 0, 0);
                    C.due("whether N is positive with one more", n(p, q, r, ohms + 1) > 0 ? 1 : 0, 1);
                }
            }
        }
        C.due("value(2) with R 0", arms(0, 3, 0).value(2), 0);
        C.due("value(2) with R 999", arms(0, 3, 999).value(2), 0);
        C.due("value(2) with R 1000", arms(0, 3, 1000).value(2), 1);
    }

    private static void limitRange() {
        MirrorBridge x = arms(0, 1, 15);
        C.due("value(0)", x.value(0), 2);
        C.due("value(2)", x.value(2), 1);
        for (int limit : new int[] {-1, 3, Integer.MIN_VALUE, Integer.MAX_VALUE}) {
            C.refusedAfter("value(" + limit + ")", ARGUMENT, y -> { }, y -> y.value(limit));
        }
    }

    // ---- bestR, bestArms

    private static void bestR(int p, int q, int ohms, int due) {
        MirrorBridge x = arms(p, q, 5000);
        int i = x.add(ohms);
        C.due("bestR with P " + p + ", Q " + q + ", X " + ohms, x.bestR(i), due);
    }

    private static void endsOfTheBox() {
        // N is 0 with 9990, 9999 and 10000
        bestR(0, 1, 999, 9990);
        bestR(2, 2, 9999, 9999);
        bestR(0, 1, 1000, 9999);
        bestR(0, 1, 1001, 9999);
        bestR(0, 3, 9999, 9999);
        bestR(0, 3, 9, 9000);
        bestR(0, 3, 10, 9999);
        // |N| is 1 with 0, and 999 with 1
        bestR(3, 0, 1, 0);
        bestR(1, 0, 4, 0);
        bestR(2, 2, 1, 1);
    }

    private static void smallestN() {
        bestR(1, 0, 14, 1);
        bestR(1, 0, 16, 2);
        bestR(3, 1, 149, 1);
        bestR(3, 1, 151, 2);
        bestR(3, 0, 9499, 9);
        bestR(3, 0, 9501, 10);
        bestR(3, 0, 9999, 10);
        bestR(2, 1, 9994, 999);
        bestR(2, 1, 9996, 1000);
        // each R below and above is worse; this resistor is not the one in the bridge
        MirrorBridge x = Check.bridge("G211000103+0004x1500x0777");
        for (int i = 0; i <= 1; i++) {
            int best = x.bestR(i);
            x.choose(i);
            x.set(2, best);
            int n = Math.abs(x.bridge(0));
            x.set(2, best - 1);
            C.due("whether one less is worse", Math.abs(x.bridge(0)) > n ? 1 : 0, 1);
            x.set(2, best + 1);
            C.due("whether one more is worse", Math.abs(x.bridge(0)) > n ? 1 : 0, 1);
            x.choose(0);
        }
        C.due("bestR(0)", x.bestR(0), 150);
        C.due("bestR(1)", x.bestR(1), 78);
    }

    private static void smallestR() {
        // |N| is 5 with 0 and 1, with 1 and 2; 50, 500
        bestR(1, 0, 5, 0);
        bestR(1, 0, 15, 1);
        bestR(1, 0, 9995, 999);
        bestR(2, 0, 50, 0);
        bestR(2, 0, 51, 1);
        bestR(2, 0, 49, 0);
        bestR(3, 0, 500, 0);
        bestR(3, 0, 1500, 1);
        bestR(3, 0, 9500, 9);
        bestR(3, 2, 5, 0);
        bestR(3, 2, 15, 1);
    }

    private static void noUnknownForR() {
        Scene.Calls three = loaded("G221000103+0004x1500x0007x0300");
        C.due("bestR(0)", Scene.after(three).bestR(0), 1500);
        C.due("bestR(2)", Scene.after(three).bestR(2), 300);
        for (int i : new int[] {-1, 3, 6, Integer.MIN_VALUE, Integer.MAX_VALUE}) {
            C.refusedAfter("bestR(" + i + ")", INDEX, three, x -> x.bestR(i));
        }
        Scene.Calls six = loaded("G221000103+0004x0001x0002x0003x0004x0005x0006");
        C.due("bestR(5)", Scene.after(six).bestR(5), 6);
        C.refusedAfter("bestR(6)", INDEX, six, x -> x.bestR(6));
        C.refusedAfter("bestR(1) of a new object", INDEX, x -> { }, x -> x.bestR(1));
    }

    private static void bestArms(int ohms, int due) {
        MirrorBridge x = new MirrorBridge();
        int i = x.add(ohms);
        C.due("bestArms with X " + ohms, x.bestArms(i), due);
    }

    private static void greatest() {
        // 9000, 1000 (10000 is too much), 9900, 1000, 9990, 1000, 9999
        bestArms(1, 3);
        bestArms(9, 3);
        bestArms(10, 2);
        bestArms(99, 2);
        bestArms(100, 1);
        bestArms(999, 1);
        bestArms(1000, 0);
        bestArms(9998, 0);
        bestArms(9999, 0);
    }

    private static void smallerP() {
        int[] powers = {1, 10, 100, 1000};
        for (int first = 1; first <= 9999; first += 5) {
            MirrorBridge x = new MirrorBridge();
            x.set(0, 3);
            for (int ohms = first; ohms < first + 5 && ohms <= 9999; ohms++) {
                int i = x.add(ohms);
                long greatest = 0;
                int due = NONE;
                for (int p = 0; p <= 3; p++) {
                    for (int q = 0; q <= 3; q++) {
                        // a thousandth is enough for an exact fraction
                        long value = 1000L / powers[p] * powers[q] * ohms;
                        if (value <= 9999000 && value > greatest) {
                            greatest = value;
                            due = 10 * p + q;
                        }
                    }
                }
                C.due("bestArms with X " + ohms, x.bestArms(i), due);
            }
        }
    }

    private static void noUnknownForArms() {
        Scene.Calls three = loaded("G221000103+0004x1500x0007x0300");
        C.due("bestArms(0)", Scene.after(three).bestArms(0), 0);
        C.due("bestArms(1)", Scene.after(three).bestArms(1), 3);
        C.due("bestArms(2)", Scene.after(three).bestArms(2), 1);
        for (int i : new int[] {-1, 3, 6, Integer.MIN_VALUE, Integer.MAX_VALUE}) {
            C.refusedAfter("bestArms(" + i + ")", INDEX, three, x -> x.bestArms(i));
        }
        Scene.Calls six = loaded("G221000103+0004x0001x0002x0003x0004x0005x0060");
        C.due("bestArms(5)", Scene.after(six).bestArms(5), 2);
        C.refusedAfter("bestArms(6)", INDEX, six, x -> x.bestArms(6));
        C.refusedAfter("bestArms(1) of a new object", INDEX, x -> { }, x -> x.bestArms(1));
    }

    // ---- enoughShunt, sensitivity

    private static void shunt(String text, int due) {
        for (int index = 0; index <= 3; index++) {
            MirrorBridge x = Check.bridge(text);
            x.set(4, index);
            C.due("enoughShunt() of " + text + " with the shunt " + index, x.enoughShunt(), due);
            C.due("the shunt", x.about(4), index);
        }
    }

    private static void smallestIndex() {
        // 50000 * (X - R) / (X + R): 500 and 501; 5000 and 5010; 50000 is the most, with the battery 1
        shunt("G000099010+0000x0101", 0);
        shunt("G009799010+0000x9999", 1);
        shunt("G000900010+0000x1100", 1);
        shunt("G000899010+0000x1101", 2);
        shunt("G000000010+0000x9999", 2);
        shunt("G000000020+0000x9999", 3);
        shunt("G000000100+0000x9999", 3);
        shunt("G000000110+0000x9999", NONE);
        // and the other way round
        shunt("G000101010+0000x0099", 0);
        shunt("G001100010+0000x0900", 1);
        shunt("G001101010+0000x0899", 2);
    }

    private static void warmthAsItIs() {
        // in balance, the offset is 500 with the warmth 2500 and 501 with 2505
        MirrorBridge x = Check.bridge("G221500503+0020x1500");
        for (int i = 0; i < 50; i++) {
            x.press(false);
        }
        C.due("offset", x.about(8), 500);
        C.due("enoughShunt()", x.enoughShunt(), 0);
        x.set(3, 5);
        C.due("enoughShunt() with another battery", x.enoughShunt(), 0);
        x.press(true);
        C.due("offset", x.about(8), 501);
        C.due("enoughShunt()", x.enoughShunt(), NONE);
    }

    private static void beyond() {
        // 500 and -500 are on the scale; the offset is in both readings and not divided
        String[] texts = {"G000099010+0000x0101", "G000900010+0000x1100", "G000000010+0000x9999",
            "G000000100+0000x9999"};
        int[] due = {0, 1, 2, 3};
        int[] next = {1, 2, 3, NONE};
        for (int k = 0; k < 4; k++) {
            MirrorBridge x = Check.bridge(texts[k]);
            C.due("enoughShunt() with 500", x.enoughShunt(), due[k]);
            x.set(5, 1);
            C.due("enoughShunt() with 501", x.enoughShunt(), next[k]);
            x.set(5, -1);
            C.due("enoughShunt() with -501", x.enoughShunt(), next[k]);
        }
        // 499 + 1, -499 - 1
        MirrorBridge x = Check.bridge("G221000103+0000x1500");
        x.set(3, 49);
        x.set(5, 10);
        C.due("enoughShunt() with 490 + 10", x.enoughShunt(), 3);
        x.set(5, 11);
        C.due("enoughShunt() with 490 + 11", x.enoughShunt(), NONE);
        x.set(5, -10);
        C.due("enoughShunt() with -490 - 10", x.enoughShunt(), 3);
        x.set(5, -11);
        C.due("enoughShunt() with -490 - 11", x.enoughShunt(), NONE);
    }

    private static void noShunt() {
        C.due("enoughShunt() with 500 at most", Check.bridge("G000000100+0000x9999").enoughShunt(), 3);
        C.due("enoughShunt() with 550 at least", Check.bridge("G000000110+0000x9999").enoughShunt(), NONE);
        C.due("enoughShunt() with -550", Check.bridge("G309999990+0000x0001").enoughShunt(), NONE);
    }

    private static void sensitivity(String text, int due) {
        MirrorBridge x = Check.bridge(text);
        C.due("sensitivity() of " + text, x.sensitivity(), due);
        C.due("R", x.about(2), Integer.parseInt(text.substring(3, 7)));
    }

    private static void withinItsRange() {
        // R = 0: 50000, R = 1: 16666; with R = -1, which is none, it would be 150000
        sensitivity("G000000010+0000x0002", 50000 - 16666);
        // R = 1: 16666, and 0 is inside
        sensitivity("G000001010+0000x0002", 50000 - 16666);
        // R = 9998: -495, R = 9999: -742; with R = 10000, which is none, it would be -990
        sensitivity("G229999990+0000x9996", 742 - 495);
        // R = 9997: -247, and 9999 is inside
        sensitivity("G229998990+0000x9996", 495 - 247);
        // -4994504 and -4994504; -4994505 with R = 10000
        sensitivity("G309999500+0000x0001", 0);
    }

    private static void greaterDifference() {
        // 1000000 * (1500 - R) / (1500 + R): 200480.2, 200000, 199520.2
        sensitivity("G221000200+0000x1500", 480);
        // R = 1: 0; the smaller one leads to 50000, the greater one to -16666
        sensitivity("G000001010+0000x0001", 50000);
        // the shunt divides first: 100, 100, 99
        sensitivity("G221000103+0000x1500", 1);
        sensitivity("G221500103+0000x1500", 0);
        // below 0 too: -166.5, -166.66, -166.7
        sensitivity("G223000103+0000x1500", 0);
        // neither the offset nor the warmth are in it
        sensitivity("G221000200-5020x1500", 480);
    }

    // ---- offsetAfter, waitFor

    private static void forecastPresses() {
        MirrorBridge x = Check.bridge("G221500993-0320x1500");
        C.due("offsetAfter(0, 0)", x.offsetAfter(0, 0), -3);
        C.due("offsetAfter(1, 0)", x.offsetAfter(1, 0), -3 + 19);
        C.due("offsetAfter(98, 0)", x.offsetAfter(98, 0), -3 + 1940);
        C.due("offsetAfter(99, 0)", x.offsetAfter(99, 0), -3 + 1960);
        // with the warmth 297 ahead, 98 presses lead to 9999 and one more to no more
        for (int i = 0; i < 3; i++) {
            x.press(true);
        }
        C.due("offsetAfter(97, 0)", x.offsetAfter(97, 0), -3 + 1980);
        C.due("offsetAfter(98, 0)", x.offsetAfter(98, 0), -3 + 1999);
        C.due("offsetAfter(99, 0)", x.offsetAfter(99, 0), -3 + 1999);
        // also if a press would be refused
        MirrorBridge stuck = Check.bridge(COARSE);
        C.due("offsetAfter(99, 0) with overloads", stuck.offsetAfter(99, 0), 39);
        stuck.press(false);
        C.due("offsetAfter(99, 0) when it sticks", stuck.offsetAfter(99, 0), 40);
        C.due("sticks", stuck.about(12), 1);
    }

    private static void forecastWaits() {
        MirrorBridge x = Check.bridge("G221500993-0320x1500");
        x.press(false);
        // 99, 89, 80, 71
        C.due("offsetAfter(0, 0)", x.offsetAfter(0, 0), -3 + 19);
        C.due("offsetAfter(0, 1)", x.offsetAfter(0, 1), -3 + 17);
        C.due("offsetAfter(0, 3)", x.offsetAfter(0, 3), -3 + 14);
        C.due("offsetAfter(0, 199)", x.offsetAfter(0, 199), -3);
        C.due("offsetAfter(0, 200)", x.offsetAfter(0, 200), -3);
        // behind the presses, not ahead of them: 198, 178, 160
        C.due("offsetAfter(1, 2)", x.offsetAfter(1, 2), -3 + 32);
        C.due("offsetAfter(99, 200)", x.offsetAfter(99, 200), -3);
    }

    private static void forecastRanges() {
        int[][] wrong = {{-1, 0}, {100, 0}, {0, -1}, {0, 201}, {-1, -1}, {100, 201}, {-1, 200}, {99, 201}, {100, 200},
            {Integer.MIN_VALUE, 0}, {Integer.MAX_VALUE, 0}, {0, Integer.MIN_VALUE}, {0, Integer.MAX_VALUE}};
        for (int[] w : wrong) {
            C.refusedAfter("offsetAfter(" + w[0] + ", " + w[1] + ")", ARGUMENT, x -> x.pair(),
                    x -> x.offsetAfter(w[0], w[1]));
        }
        C.due("offsetAfter(99, 200)", new MirrorBridge().offsetAfter(99, 200), 0);
    }

    private static void waitForRange() {
        C.due("waitFor(-50)", Check.bridge("G221500993-5020x1500").waitFor(-50), 0);
        C.due("waitFor(300)", new MirrorBridge().waitFor(300), 0);
        for (int offset : new int[] {-51, 301, Integer.MIN_VALUE, Integer.MAX_VALUE}) {
            C.refusedAfter("waitFor(" + offset + ")", ARGUMENT, x -> x.pair(), x -> x.waitFor(offset));
        }
    }

    private static void fewestTicks() {
        MirrorBridge x = Check.bridge("G221500993-0320x1500");
        x.press(false);
        // 99, 89, 80: the offsets are 16, 14, 13
        C.due("waitFor(17)", x.waitFor(17), 0);
        C.due("waitFor(16)", x.waitFor(16), 0);
        C.due("waitFor(15)", x.waitFor(15), 1);
        C.due("waitFor(14)", x.waitFor(14), 1);
        C.due("waitFor(13)", x.waitFor(13), 2);
        C.due("waitFor(-3)", x.waitFor(-3), ticksUntil(x, -3));
        // from the greatest warmth: as many ticks as pause(1) takes
        MirrorBridge hot = Check.bridge("G221500993-5020x1500");
        for (int i = 0; i < 102; i++) {
            hot.press(false);
        }
        C.due("warmth", hot.about(7), 9999);
        C.due("waitFor(300)", hot.waitFor(300), 17);
        C.due("waitFor(-50)", hot.waitFor(-50), ticksUntil(hot, -50));
        C.due("warmth still", hot.about(7) < 9999 ? 1 : 0, 1);
    }

    /** Waits tick by tick until the offset is at most this one. */
    private static int ticksUntil(MirrorBridge x, int offset) {
        int ticks = 0;
        while (x.about(8) > offset && ticks < 200) {
            x.pause(1);
            ticks++;
        }
        C.due("the offset after " + ticks + " ticks", x.about(8) <= offset ? 1 : 0, 1);
        return ticks;
    }

    private static void neverAtMost() {
        // however long one waits, the offset is not below the steady one
        for (int steady : new int[] {-49, -1, 0, 1, 50}) {
            MirrorBridge x = new MirrorBridge();
            x.set(5, steady);
            x.set(3, 99);
            x.set(6, 20);
            x.press(false);
            C.due("waitFor(" + (steady - 1) + ")", x.waitFor(steady - 1), NONE);
            C.due("whether waitFor(" + steady + ") has a result", x.waitFor(steady) > 0 ? 1 : 0, 1);
        }
        MirrorBridge cold = new MirrorBridge();
        C.due("waitFor(-1) when cold", cold.waitFor(-1), NONE);
        C.due("waitFor(0) when cold", cold.waitFor(0), 0);
    }

    // ---- balanced

    private static void balanced(MirrorBridge x, int... due) {
        for (int what = 0; what <= 3; what++) {
            C.due("balanced(" + what + ")", x.balanced(what), due[what]);
        }
    }

    private static void whatBalanceLeadsTo() {
        String[] texts = {"G220000011+0000x1111", "G220000011+0000x9999", COARSE, "G220000011+1100x0001",
            "G220000052+0003x0001", "G000000010+0000x1222", "G010000021+0000x0009", "G309999012+0000x0001"};
        for (String text : texts) {
            for (int ahead : new int[] {0, 3}) {
                MirrorBridge x = Check.bridge(text);
                // some presses with a shunt that lets nothing stick
                x.set(2, x.bestR(0));
                for (int i = 0; i < ahead; i++) {
                    x.press(true);
                }
                C.due("sticks ahead of it", x.about(12), 0);
                int[] told = {x.balanced(0), x.balanced(1), x.balanced(2), x.balanced(3)};
                int presses = x.about(14);
                C.due("balance() of " + text, x.balance(), told[0]);
                C.due("presses of " + text, x.about(14) - presses, told[1]);
                C.due("warmth of " + text, x.about(7), told[2]);
                C.due("sticks of " + text, x.about(12), told[3]);
            }
        }
    }

    private static void asIfFree() {
        MirrorBridge stuck = Check.bridge(COARSE);
        stuck.press(false);
        // no ticks of waiting are in it: 10 and one press
        balanced(stuck, 1000, 1, 20, 1);
        C.due("sticks still", stuck.about(12), 1);
        stuck.set(4, 1);
        stuck.set(3, 1);
        stuck.set(6, 0);
        // 2, 6, 1 and 1 pairs
        balanced(stuck, 1500, 20, 30, 0);
        C.due("sticks still", stuck.about(12), 1);
        C.due("R still", stuck.about(2), 1000);
        C.refused(stuck, "balance()", IllegalStateException.class, stuck::balance);
    }

    private static void wouldStick() {
        // -4990 + 10 and 5000; -4990 + 11 and 5001
        C.due("balanced(3) at 5000", Check.bridge("G220000011+1000x0001").balanced(3), 0);
        C.due("balanced(3) at 5001", Check.bridge("G220000011+1100x0001").balanced(3), 1);
        C.due("balanced(3) at -5000", Check.bridge("G220000011-1000x0001").balanced(3), 0);
        C.due("balanced(3) at -5001", Check.bridge("G220000011-1100x0001").balanced(3), 1);
        C.due("balanced(1) at 5001", Check.bridge("G220000011+1100x0001").balanced(1), 2);
        C.due("balanced(1) at -5001", Check.bridge("G220000011-1100x0001").balanced(1), 1);
    }

    private static void balancedRange() {
        MirrorBridge x = Check.bridge("G220000011+0000x1111");
        balanced(x, 1111, 16, 16, 0);
        for (int what : new int[] {-1, 4, Integer.MIN_VALUE, Integer.MAX_VALUE}) {
            C.refusedAfter("balanced(" + what + ")", ARGUMENT, y -> y.pair(), y -> y.balanced(what));
        }
    }
}
