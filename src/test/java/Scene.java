/**
 * What a run of calls leaves behind it. Each look is made on a new object on which the run is made
 * again, so that the looks may be many and no object is used for more than its 512 calls.
 */
final class Scene {
    /** Calls that are made on a new object. */
    interface Calls {
        void on(MirrorBridge x);
    }

    /** A call whose answer is looked at. */
    interface Call {
        int on(MirrorBridge x);
    }

    private Scene() {
    }

    static MirrorBridge after(Calls run) {
        MirrorBridge x = new MirrorBridge();
        run.on(x);
        return x;
    }

    /** The same calls, and then these. */
    static Calls then(Calls first, Calls second) {
        return x -> {
            first.on(x);
            second.on(x);
        };
    }

    /** All that later calls show: the state, the text, the remembered states, the save slots. */
    static String shown(Calls run) {
        return state(run) + text(run) + past(run) + slots(run);
    }

    /** All that later calls show of the state. */
    static String state(Calls run) {
        StringBuilder s = new StringBuilder("\nstate ").append(Check.seen(after(run)));
        MirrorBridge x = after(run);
        for (int what = 0; what <= 3; what++) {
            s.append(' ').append(x.balanced(what));
        }
        s.append(' ').append(x.enoughShunt()).append(' ').append(x.sensitivity()).append(' ').append(x.value(0));
        s.append(' ').append(x.waitFor(0)).append(' ').append(x.offsetAfter(3, 2)).append(' ').append(x.simulate(7, 50));
        s.append("\nlater");
        // the numbers are looked at once more behind calls of which each would show another state
        int unknowns = x.about(10);
        for (int i = 0; i < unknowns; i++) {
            x.choose(i);
            s.append(' ').append(x.bridge(0));
        }
        s.append(' ').append(x.free()).append(' ').append(x.pair()).append(' ').append(Check.numbers(x));
        return s.toString();
    }

    /** All that later calls show of the text. */
    static String text(Calls run) {
        StringBuilder s = new StringBuilder("\ntext ").append(after(run).errorPosition());
        MirrorBridge longer = after(run);
        s.append(' ').append(Check.answer(() -> longer.append('x'))).append(' ').append(longer.errorPosition());
        s.append(' ').append(after(run).clearText());
        MirrorBridge x = after(run);
        s.append(' ').append(Check.answer(x::load)).append(' ').append(Check.numbers(x));
        for (int i = 0; i < x.about(10); i++) {
            x.choose(i);
            s.append(' ').append(x.bridge(0));
        }
        return s.toString();
    }

    /** What is left of the remembered states: all of them, one behind the other, as undo() tells them. */
    static String past(Calls run) {
        StringBuilder s = new StringBuilder();
        for (int back = 1; back <= 15; back++) {
            MirrorBridge x = after(run);
            s.append("\nundo");
            for (int i = 0; i < back; i++) {
                s.append(' ').append(Check.answer(x::undo));
            }
            s.append(": ").append(Check.seen(x));
        }
        return s.toString();
    }

    /** What is in the save slots. */
    static String slots(Calls run) {
        StringBuilder s = new StringBuilder();
        for (int slot = 0; slot <= 1; slot++) {
            int k = slot;
            MirrorBridge x = after(run);
            s.append("\nrestore ").append(Check.answer(() -> x.restore(k))).append(": ").append(Check.seen(x));
            s.append(", undo ").append(Check.answer(x::undo));
        }
        return s.toString();
    }
}
