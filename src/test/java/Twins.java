import java.util.ArrayList;
import java.util.List;
import java.util.function.Consumer;

/**
 * Two ships that are told the same, but for one call that only the first of them gets: what it has changed is what she
 * and her twin tell differently. All is asked that can be: what is undone, the images and the text, too.
 */
final class Twins {
    static final int BAD = 0, NO = 1, FULL = 2;
    private static final int NOT_REFUSED = -1;

    private final Check check;
    private final String when;
    private final Consumer<SleepyHelm> setUp;

    Twins(Check check, String when, Consumer<SleepyHelm> setUp) {
        this.check = check;
        this.when = when;
        this.setUp = setUp;
    }

    /** The call is refused, counted once for its reason, and changes nothing else. */
    void refused(Call call, long answer, int reason) {
        changesNothing(call, answer, reason);
    }

    /** The call answers, and changes nothing at all. */
    void asked(Call call, long answer) {
        changesNothing(call, answer, NOT_REFUSED);
    }

    /** The call is not refused for this reason, whatever it answers. */
    void notRefused(Call call, int reason) {
        SleepyHelm x = made();
        int ahead = x.status(reason);
        call.on(x);
        check.due(when + ": " + call + " is not refused: status(" + reason + ")", x.status(reason), ahead);
    }

    private void changesNothing(Call call, long answer, int reason) {
        SleepyHelm x = made();
        SleepyHelm twin = made();
        check.due(when + ": " + call, call.on(x), answer);
        for (int what = 0; what <= 2; what++) {
            int more = what == reason ? 1 : 0;
            check.due(when + ": " + call + ": status(" + what + ")", x.status(what), twin.status(what) + more);
        }
        check.holds(when + ": " + call + " changes nothing else", whole(x).equals(whole(twin)));
    }

    private SleepyHelm made() {
        SleepyHelm x = new SleepyHelm();
        setUp.accept(x);
        return x;
    }

    /** All that a ship can tell but STATUS; she is used up by it. */
    static List<Long> whole(SleepyHelm x) {
        List<Long> told = new ArrayList<>();
        tellNow(told, x);
        tellPast(told, x);
        for (int i = 0; i <= 1; i++) {
            int kept = x.from(i);
            told.add((long) kept);
            if (kept == 1) {
                tellNow(told, x);
                tellPast(told, x);
            }
        }
        told.add((long) x.read());
        told.add(x.digest());
        return told;
    }

    private static void tellNow(List<Long> told, SleepyHelm x) {
        for (int what = 0; what <= 6; what++) {
            told.add((long) x.count(what));
        }
        for (int what = 0; what <= 2; what++) {
            told.add((long) x.now(what));
        }
        for (int h = 0; h < x.count(0); h++) {
            for (int what = 0; what <= 4; what++) {
                told.add((long) x.of(h, what));
            }
        }
        told.add(x.part(0));
        told.add(x.part(1));
        told.add(x.digest());
    }

    private static void tellPast(List<Long> told, SleepyHelm x) {
        long watch = x.undo();
        for (int u = 0; u < 10 && watch >= 0; u++) {
            told.add(watch);
            told.add(x.digest());
            watch = x.undo();
        }
        told.add(watch);
    }
}
