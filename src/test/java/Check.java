import java.util.function.IntSupplier;

/** Counts the answers that are due and those that are not, and makes bridges for tests. */
final class Check {
    private final String name;
    private String sentence = "";
    private int sentences;
    private int right;
    private int wrong;

    Check(String name) {
        this.name = name;
    }

    /** One sentence of the document, where it stands there, and the test that fails if it is broken. */
    void sentence(String place, String words, Runnable test) {
        sentence = place + ", \"" + words + "\": ";
        int ahead = right + wrong;
        try {
            test.run();
        } catch (RuntimeException e) {
            fails("the test ended with " + e);
        }
        if (right + wrong == ahead) {
            fails("the test looked at no answer");
        }
        sentence = "";
        sentences++;
    }

    private void fails(String what) {
        wrong++;
        System.out.println(name + ": " + sentence + what);
    }

    void due(String call, long got, long want) {
        if (got == want) {
            right++;
        } else {
            fails(call + " answered " + got + ", due is " + want);
        }
    }

    void same(String call, String got, String want) {
        if (got.equals(want)) {
            right++;
        } else {
            fails(call + " told\n  " + got + ", due is\n  " + want);
        }
    }

    /** The call must throw just this exception and change none of the numbers of the bridge. */
    void refused(MirrorBridge x, String call, Class<?> due, IntSupplier made) {
        String ahead = numbers(x);
        same(call + " throws", answer(made), due.getName());
        same("the numbers after " + call, numbers(x), ahead);
    }

    /** What a call answers: a number, or the name of the exception that it throws. */
    static String answer(IntSupplier made) {
        try {
            return String.valueOf(made.getAsInt());
        } catch (RuntimeException e) {
            return e.getClass().getName();
        }
    }

    /** The call behind this run must throw just this exception, and no later call may show that it was made. */
    void refusedAfter(String call, Class<?> due, Scene.Calls run, Scene.Call made) {
        MirrorBridge x = Scene.after(run);
        same(call + " throws", answer(() -> made.on(x)), due.getName());
        unchanged(call, run, made);
    }

    /** No later call may show that this call was made behind this run, whether it answers or throws. */
    void unchanged(String call, Scene.Calls run, Scene.Call made) {
        Scene.Calls both = x -> {
            run.on(x);
            answer(() -> made.on(x));
        };
        same("what later calls show after " + call, Scene.shown(both), Scene.shown(run));
    }

    /** The answers of about(0), about(1) and so on. */
    void allAbout(String name, MirrorBridge x, int... due) {
        for (int what = 0; what < due.length; what++) {
            due("about(" + what + ") of " + name, x.about(what), due[what]);
        }
    }

    /** A reading in the ledger: its value, the way of the key, R and the clock. */
    void told(MirrorBridge x, int j, int value, int way, int r, int clock) {
        due("told(" + j + ", 0)", x.told(j, 0), value);
        due("told(" + j + ", 1)", x.told(j, 1), way);
        due("told(" + j + ", 2)", x.told(j, 2), r);
        due("told(" + j + ", 3)", x.told(j, 3), clock);
    }

    /** The answers of about() alone: 16 calls. */
    static String numbers(MirrorBridge x) {
        StringBuilder s = new StringBuilder();
        for (int what = 0; what <= 15; what++) {
            s.append(x.about(what)).append(' ');
        }
        return s.toString();
    }

    /** All that the calls without effects tell of a bridge: up to 114 calls of the 512 that an object is good for. */
    static String seen(MirrorBridge x) {
        StringBuilder s = new StringBuilder(numbers(x));
        for (int what = 0; what <= 4; what++) {
            s.append(x.bridge(what)).append(' ');
        }
        for (int i = 0; i < x.about(10); i++) {
            s.append(x.bestR(i)).append(' ').append(x.bestArms(i)).append(' ');
        }
        for (int j = 0; j < x.about(13); j++) {
            for (int what = 0; what <= 3; what++) {
                s.append(x.told(j, what)).append(' ');
            }
        }
        return s.append(x.errorPosition()).toString();
    }

    static void write(MirrorBridge x, String text) {
        x.clearText();
        for (int i = 0; i < text.length(); i++) {
            x.append(text.charAt(i));
        }
    }

    /** A bridge made from a text. */
    static MirrorBridge bridge(String text) {
        MirrorBridge x = new MirrorBridge();
        write(x, text);
        x.load();
        return x;
    }

    void end() {
        System.out.println(name + ": " + (sentences > 0 ? sentences + " sentences, " : "")
                + right + " answers as due, " + wrong + " not");
        if (wrong != 0 || right == 0) {
            System.exit(1);
        }
    }
}
