import java.util.ArrayList;
import java.util.List;
import java.util.function.Supplier;
import java.util.function.ToLongFunction;

/** All that one can see of a mill, to tell whether two mills are the same and whether a call changed anything. */
final class Seen {
    // Few, so that a mill that is looked at this often stays within its 512 calls.
    private static final int MOST_SACKS_SEEN = 3;

    private final List<String> calls = new ArrayList<>();
    private final List<Long> answers = new ArrayList<>();

    private Seen(ConfessionMill mill) {
        for (int what = 0; what <= 11; what++) {
            add("count(" + what + ")", mill.count(what));
        }
        people(mill);
        sacks(mill);
        cakes(mill);
        add("pairs()", mill.pairs());
        add("fits()", mill.fits());
        add("flour(0)", mill.flour(0));
        add("run(0, 0)", mill.run(0, 0));
    }

    private void add(String call, long answer) {
        calls.add(call);
        answers.add(answer);
    }

    private void people(ConfessionMill mill) {
        for (int p = 0; p < mill.count(1); p++) {
            for (int what = 0; what <= 4; what++) {
                add("look(" + p + ", " + what + ")", mill.look(p, what));
            }
            for (int s = 0; s < mill.count(0); s++) {
                add("did(" + p + ", " + s + ", 0)", mill.did(p, s, 0));
                add("did(" + p + ", " + s + ", 1)", mill.did(p, s, 1));
                add("fine(" + p + ", " + s + ")", mill.fine(p, s));
                add("law(1, " + p + ", " + s + ")", mill.law(1, p, s));
                add("law(2, " + p + ", " + s + ")", mill.law(2, p, s));
            }
            add("paired(" + p + ")", mill.paired(p));
            add("lies(7, " + p + ", 40)", mill.lies(7, p, 40));
        }
    }

    private void sacks(ConfessionMill mill) {
        int size = mill.count(6);
        for (int k = Math.max(0, size - MOST_SACKS_SEEN); k < size; k++) {
            for (int what = 0; what <= 4; what++) {
                add("sack(" + k + ", " + what + ")", mill.sack(k, what));
            }
            add("crumb(" + k + ", 0)", mill.crumb(k, 0));
            add("crumb(" + k + ", 1)", mill.crumb(k, 1));
        }
    }

    private void cakes(ConfessionMill mill) {
        for (int k = 0; k < mill.count(2); k++) {
            add("baked(" + k + ")", mill.baked(k));
            add("plan(" + k + ", 0)", mill.plan(k, 0));
            add("plan(" + k + ", 1)", mill.plan(k, 1));
        }
    }

    /** What both answer now; nothing changes by it. */
    static void same(String what, ConfessionMill mill, ConfessionMill twin) {
        Seen one = new Seen(mill);
        Seen other = new Seen(twin);
        Due.due(what + ": as many answers", one.calls.size(), other.calls.size());
        for (int k = 0; k < Math.min(one.calls.size(), other.calls.size()); k++) {
            Due.due(what + ": " + one.calls.get(k), one.answers.get(k), other.answers.get(k));
        }
    }

    /** What both answer now and later on: what can be undone, numbers by chance, the image, the tape. */
    static void sameFromNowOn(String what, ConfessionMill mill, ConfessionMill twin) {
        same(what, mill, twin);
        for (int k = 0; k < 21; k++) {
            int left = mill.undo();
            Due.due(what + ": undo() " + k, left, twin.undo());
            if (left < 0) {
                break;
            }
        }
        same(what + ", all undone", mill, twin);
        for (int k = 0; k < 3 * mill.count(1); k++) {
            int person = k % mill.count(1);
            Due.due(what + ": ask(" + person + ")", mill.ask(person), twin.ask(person));
        }
        same(what + ", asked", mill, twin);
        Due.due(what + ": back()", mill.back(), twin.back());
        same(what + ", back", mill, twin);
        int size = mill.feed(0x20202020, 0x20202020, 0x20202020, 0x20202020, 0x20202020);
        Due.due(what + ": feed", size, twin.feed(0x20202020, 0x20202020, 0x20202020, 0x20202020, 0x20202020));
        int whole = size < 0 ? 700 : size;
        Due.due(what + ": text of the tape", mill.text(whole), twin.text(whole));
        Due.due(what + ": fault(1) of it", mill.fault(1), twin.fault(1));
        same(what + ", told", mill, twin);
    }

    /** A call's answer, by which nothing changes: a twin that never got the call goes on the same way. */
    static void unchanged(String call, Supplier<ConfessionMill> made, ToLongFunction<ConfessionMill> step, long answer) {
        ConfessionMill mill = made.get();
        Due.due(call, step.applyAsLong(mill), answer);
        sameFromNowOn("behind " + call, mill, made.get());
    }
}
