import java.util.function.Consumer;

/** "An object is used for at most 512 calls after it has been made": the last of them is answered as told, too. */
public final class LastCallEdgeTest {
    private static final int NONE = -1, BAD = -2, NO = -3, FULL = -4;
    private static final int CALLS = 512;

    private static final Check check = new Check();

    public static void main(String[] args) {
        theLastCallOfALongVoyage(3);
        theLastCallOfALongVoyage(-3);
        theLastOfManyRefusals();
        theLastOfManyTurns();
        theLastTextOfMany();
        theLastOfManyImages();
        theMostTiredOfAll();
        check.end();
    }

    /** Five of the crew, 506 watches; then each call is the 512th of an object of its own. */
    private static void theLastCallOfALongVoyage(int nods) {
        int place = 506 * nods;
        last(nods, 5, "ship");
        last(nods, 1, "rock", 60);
        last(nods, BAD, "rock", 61);
        last(nods, 5, "hand", 5, 40, 3);
        last(nods, 1, "type", 127);
        last(nods, 0, "clear");
        last(nods, -10, "read");
        last(nods, 1, "feed", 4);
        last(nods, BAD, "feed", 5);
        last(nods, 1, "watch");
        last(nods, 505, "undo");
        last(nods, 36, "of", 0, 1);
        last(nods, 41, "of", 4, 4);
        last(nods, place, "now", 0);
        last(nods, 0, "now", 1);
        last(nods, 1, "now", 2);
        last(nods, place + 60 * nods, "then", 60, 0);
        last(nods, 1, "then", 60, 1);
        last(nods, NONE, "strikes");
        last(nods, NONE, "peas", 60, 4, -1);
        last(nods, 255 - 1 - 32, "canNot", 1);
        last(nods, 15, "eat", 0, 1);
        last(nods, 1, "seen", 20, 60);
        last(nods, 0, "forget");
        last(nods, 127, "nod", 0);
        last(nods, 63, "is", 0);
        last(nods, 1, "look", 1);
        last(nods, 5, "look", 0);
        last(nods, (1 << 20) - 1, "pulled", 9);
        last(nods, NONE, "meet", 60, nods, 0);
        last(nods, NONE, "meet", -60, nods, 1);
        last(nods, 1, "odds", 1, 10);
        last(nods, place + 60 * nods, "voyages", 999999, 60);
        last(nods, 0, "part", 0);
        last(nods, 1, "part", 1);
        last(nods, 1, "image", 1);
        last(nods, NO, "from", 0);
        last(nods, 0, "status", 0);
        last(nods, 506, "count", 2);
        last(nods, 8, "count", 5);
        long digest = 1181;
        for (int v : new int[] {5, 0, 506, 0, 0, 8, 0, place, 0, 36, nods, 0, 0, 41, nods, 0, 0, 41, nods, 0, 0, 41, nods,
            0, 0, 41, nods, 0, 0, 1}) {
            digest = 31 * digest + v;
        }
        last(nods, digest, "digest");
    }

    private static void last(int nods, long want, String name, int... numbers) {
        lastOf("506 watches", x -> {
            Ships.five(x, nods);
            Ships.watches(x, CALLS - 1 - 5);
        }, want, Call.of(name, numbers));
    }

    /** The set-up makes 511 calls. */
    private static void lastOf(String when, Consumer<SleepyHelm> setUp, long want, Call call) {
        SleepyHelm x = new SleepyHelm();
        setUp.accept(x);
        check.due(when + ", the last call: " + call, call.on(x), want);
    }

    private static void theLastOfManyRefusals() {
        lastOf("511 BAD", x -> many(x, 511, Call.of("rock", 61)), 511, Call.of("status", 0));
        lastOf("511 BAD", x -> many(x, 511, Call.of("status", 3)), 511, Call.of("status", 0));
        lastOf("511 NO", x -> many(x, 511, Call.of("undo")), 511, Call.of("status", 1));
        lastOf("511 NO", x -> many(x, 511, Call.of("from", 1)), 0, Call.of("status", 0));
        lastOf("505 FULL", x -> {
            many(x, 6, Call.of("seen", 20, -60));
            many(x, 505, Call.of("seen", 20, -60));
        }, 505, Call.of("status", 2));
        lastOf("361 FULL", x -> many(x, 511, Call.of("type", 32)), 361, Call.of("status", 2));
        lastOf("361 FULL", x -> many(x, 511, Call.of("type", 32)), FULL, Call.of("type", 32));
    }

    private static void many(SleepyHelm x, int times, Call call) {
        for (int k = 0; k < times; k++) {
            call.on(x);
        }
    }

    /** Peas, undone, again and again: nothing is used up by it. */
    private static void theLastOfManyTurns() {
        SleepyHelm x = new SleepyHelm();
        x.hand(Ships.COOK, 20, 1);
        for (int turn = 0; turn < 255; turn++) {
            check.due("feed(0)", x.feed(0), 1);
            check.due("undo()", x.undo(), 0);
        }
        check.due("the last call: of(0, 3)", x.of(0, 3), 0);
        SleepyHelm empty = new SleepyHelm();
        for (int turn = 0; turn < 255; turn++) {
            check.due("hand(5, 40, 3)", empty.hand(5, 40, 3), 0);
            check.due("ship()", empty.ship(), 1);
        }
        check.due("count(0)", empty.count(0), 0);
        check.due("the last call: ship()", empty.ship(), 0);
    }

    /** A text that is read again and again makes the same ship each time, or leaves her with the same fault. */
    private static void theLastTextOfMany() {
        SleepyHelm x = new SleepyHelm();
        String text = "ship;reef 60;" + " ".repeat(136) + ";";
        Ships.type(x, text);
        for (int k = 0; k < 180; k++) {
            check.due("read() of a fault", x.read(), -10 - 149);
            check.due("all stays: count(1)", x.count(1), 0);
        }
        check.due("clear()", x.clear(), 150);
        check.due("the last call: count(6)", x.count(6), 0);
        SleepyHelm told = new SleepyHelm();
        Ships.type(told, "ship;reef 60;" + " ".repeat(137));
        for (int k = 0; k < 120; k++) {
            check.due("read()", told.read(), 2);
            check.due("its rock: count(1)", told.count(1), 1);
            check.due("one more", told.rock(60), 2);
        }
        check.due("read()", told.read(), 2);
        check.due("the last call: count(1)", told.count(1), 1);
    }

    private static void theLastOfManyImages() {
        SleepyHelm x = new SleepyHelm();
        Ships.five(x, 1);
        for (int k = 1; k <= 126; k++) {
            x.watch();
            check.due("image", x.image(k % 2), 1);
            x.watch();
            check.due("from", x.from(k % 2), 1);
        }
        check.due("count(2)", x.count(2), 126);
        check.due("from(1)", x.from(1), 1);
        check.due("the last call: now(0)", x.now(0), 125);
    }

    /** Six talkers grow more tired than they can be: 99, half of it 49, all of it by peas. */
    private static void theMostTiredOfAll() {
        SleepyHelm x = new SleepyHelm();
        for (int h = 0; h <= 5; h++) {
            x.hand(Ships.TALKER, 40, h - 3);
        }
        Ships.watches(x, 400);
        int calls = 406;
        int most = 0;
        for (int h = 0; h <= 5; h++) {
            int tired = x.of(h, 1);
            check.due("half (cut): of(" + h + ", 4)", x.of(h, 4), tired / 2);
            check.due("feed(" + h + ")", x.feed(h), 1);
            check.due("fed: of(" + h + ", 4)", x.of(h, 4), tired);
            most = Math.max(most, tired);
            calls += 4;
        }
        check.due("the most tired", most, 99);
        for (; calls < CALLS - 1; calls++) {
            x.count(5);
        }
        check.holds("the last call: watch()", x.watch() >= 0);
    }
}
