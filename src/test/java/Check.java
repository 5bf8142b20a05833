import java.util.function.IntSupplier;

/** Counts the answers that are due and those that are not, and makes bridges for tests. */
final class Check {
    private final String name;
    private int right;
    private int wrong;

    Check(String name) {
        this.name = name;
    }

    void due(String call, long got, long want) {
        if (got == want) {
            right++;
        } else {
            wrong++;
            System.out.println(name + ": " + call + " answered " + got + ", due is " + want);
        }
    }

    void same(String call, String got, String want) {
        if (got.equals(want)) {
            right++;
        } else {
            wrong++;
            System.out.println(name + ": " + call + " told\n  " + got + ", due is\n  " + want);
        }
    }

    /** The call must throw just this exception and change nothing that can be seen. */
    void refused(MirrorBridge x, String call, Class<?> due, IntSupplier made) {
        String ahead = seen(x);
        String thrown = "nothing";
        try {
            made.getAsInt();
        } catch (RuntimeException e) {
            thrown = e.getClass().getName();
        }
        same(call + " throws", thrown, due.getName());
        same("what is seen after " + call, seen(x), ahead);
    }

    /** The answers of about(0), about(1) and so on. */
    void allAbout(String name, MirrorBridge x, int... due) {
        for (int what = 0; what < due.length; what++) {
            due("about(" + what + ") of " + name, x.about(what), due[what]);
        }
    }

    /** A reading in the ledger: its value, the way of the key, R and the clock. */
    void told(MirrorBridge x, int j, int value, int way, int r, int clock) {
        due("told(" + j + ", 0)", x.told(j, 0), value);
        due("told(" + j + ", 1)", x.told(j, 1), way);
        due("told(" + j + ", 2)", x.told(j, 2), r);
        due("told(" + j + ", 3)", x.told(j, 3), clock);
    }

    /** All that the calls without effects tell of a bridge. */
    static String seen(MirrorBridge x) {
        StringBuilder s = new StringBuilder();
        for (int what = 0; what <= 15; what++) {
            s.append(x.about(what)).append(' ');
        }
        for (int what = 0; what <= 4; what++) {
            s.append(x.bridge(what)).append(' ');
        }
        for (int i = 0; i < x.about(10); i++) {
            s.append(x.bestR(i)).append(' ').append(x.bestArms(i)).append(' ');
        }
        for (int j = 0; j < x.about(13); j++) {
            for (int what = 0; what <= 3; what++) {
                s.append(x.told(j, what)).append(' ');
            }
        }
        return s.append(x.errorPosition()).toString();
    }

    static void write(MirrorBridge x, String text) {
        x.clearText();
        for (int i = 0; i < text.length(); i++) {
            x.append(text.charAt(i));
        }
    }

    /** A bridge made from a text. */
    static MirrorBridge bridge(String text) {
        MirrorBridge x = new MirrorBridge();
        write(x, text);
        x.load();
        return x;
    }

    void end() {
        System.out.println(name + ": " + right + " answers as due, " + wrong + " not");
        if (wrong != 0 || right == 0) {
            System.exit(1);
        }
    }
}
