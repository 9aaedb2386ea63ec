/** The edges of "Terms": PLACE, WATCHES, ROCKS, CREW, KINDS, A WATCH; each sentence that names one has its test. */
public final class TermsEdgeTest {
    private static final int NONE = -1, BAD = -2, NO = -3, FULL = -4;
    private static final int PLAIN = Ships.PLAIN, COLD = Ships.COLD, TALKER = Ships.TALKER, COOK = Ships.COOK,
        MOONSTRUCK = Ships.MOONSTRUCK, BOY = Ships.BOY;
    private static final boolean FED = true, UNFED = false;

    private static final Check check = new Check();

    public static void main(String[] args) {
        placeAtFirst();
        placeBelowNothing();
        watchesHaveNumbers();
        rocksOfTheLeastAndTheMostPlace();
        rocksUpToSix();
        crewAsTheyCome();
        crewOfTheLeastAndTheMost();
        plain();
        cold();
        talker();
        cook();
        moonstruck();
        boy();
        kindsLateInTheVoyage();
        ofLikeOnesTheFirst();
        nobodySteers();
        steersByNods();
        fourLessNothingAtLeast();
        othersAreMoreTired();
        ninetyNineAtMost();
        nobodyIsFedThen();
        strikes();
        check.end();
    }

    private static void due(String call, long got, long want) {
        check.due(call, got, want);
    }

    /** "SHE is in a PLACE (0 at first; ..." */
    private static void placeAtFirst() {
        SleepyHelm x = new SleepyHelm();
        due("new: now(0)", x.now(0), 0);
        due("new: then(0, 0)", x.then(0, 0), 0);
        due("new: meet(0, 0, 0): in one place", x.meet(0, 0, 0), 0);
        x.hand(PLAIN, 40, 3);
        x.watch();
        x.ship();
        due("behind ship(): now(0)", x.now(0), 0);
    }

    /** "... it may be below 0)", and far beyond the places of rocks. */
    private static void placeBelowNothing() {
        for (int nods = -3; nods <= 3; nods += 6) {
            SleepyHelm x = new SleepyHelm();
            Ships.five(x, nods);
            x.watch();
            due("now(0)", x.now(0), nods);
            due("then(1, 0)", x.then(1, 0), 2 * nods);
            due("voyages(0, 1)", x.voyages(0, 1), 2 * nods);
            Ships.watches(x, 99);
            due("behind 100 watches: now(0)", x.now(0), 100 * nods);
            due("behind 100 watches: then(60, 0)", x.then(60, 0), 160 * nods);
            due("behind 100 watches: voyages(0, 60)", x.voyages(0, 60), 160 * nods);
        }
    }

    /** "WATCHES have numbers, 0 at first." */
    private static void watchesHaveNumbers() {
        SleepyHelm x = new SleepyHelm();
        due("new: count(2)", x.count(2), 0);
        for (int w = 1; w <= 9; w++) {
            x.watch();
            due("count(2)", x.count(2), w);
        }
        x.ship();
        due("behind ship(): count(2)", x.count(2), 0);
    }

    /** "ROCKS: ... PLACES (-60 .. 60)": she goes 3 a watch, and is there behind 20. */
    private static void rocksOfTheLeastAndTheMostPlace() {
        for (int side = -1; side <= 1; side += 2) {
            SleepyHelm x = new SleepyHelm();
            Ships.five(x, 3 * side);
            due("rock one beyond", x.rock(61 * side), BAD);
            due("count(1)", x.count(1), 0);
            due("rock at the edge", x.rock(60 * side), 1);
            due("strikes()", x.strikes(), 20);
            Ships.watches(x, 19);
            due("at 57: now(1)", x.now(1), 0);
            x.watch();
            due("at 60: now(0)", x.now(0), 60 * side);
            due("at 60: now(1)", x.now(1), 1);
            x.watch();
            due("at 63: now(1)", x.now(1), 0);
        }
        SleepyHelm beyond = new SleepyHelm();
        Ships.five(beyond, 1);
        Ships.watches(beyond, 61);
        due("she is at 61: rock(61)", beyond.rock(61), BAD);
        due("she is at 61: now(1)", beyond.now(1), 0);
    }

    /** "ROCKS: up to 6". */
    private static void rocksUpToSix() {
        SleepyHelm x = new SleepyHelm();
        for (int r = 1; r <= 6; r++) {
            due("rock " + r, x.rock(r), r);
        }
        due("rock 7", x.rock(7), FULL);
        due("rock 0", x.rock(0), FULL);
        due("count(1)", x.count(1), 6);
        Ships.five(x, 1);
        for (int w = 0; w <= 7; w++) {
            due("at " + w + ": now(1)", x.now(1), w >= 1 && w <= 6 ? 1 : 0);
            x.watch();
        }
    }

    /** "CREW 0 .. 5, as they come ...; each is FED or not (not at first)". */
    private static void crewAsTheyCome() {
        SleepyHelm x = new SleepyHelm();
        due("of(0, 0): nobody there", x.of(0, 0), -10);
        for (int h = 0; h <= 5; h++) {
            due("hand " + h, x.hand(5 - h, 10 * h % 41, h - 3), h);
            due("not fed at first", x.of(h, 3), 0);
            due("the next one is not there", x.of(h + 1, 0), -10);
            x.feed(h);
            due("fed: of(" + h + ", 3)", x.of(h, 3), 1);
        }
        due("hand 6", x.hand(0, 0, 0), FULL);
        due("count(0)", x.count(0), 6);
        for (int h = 0; h <= 5; h++) {
            due("of(" + h + ", 0)", x.of(h, 0), 5 - h);
            due("of(" + h + ", 1)", x.of(h, 1), 10 * h % 41);
            due("of(" + h + ", 2)", x.of(h, 2), h - 3);
        }
        due("of(6, 0)", x.of(6, 0), -10);
        due("all six may be fed: count(3)", x.count(3), 6);
    }

    /** "a KIND, TIRED (0 .. 40), NODS (-3 .. 3)". */
    private static void crewOfTheLeastAndTheMost() {
        int[][] wrong = {{-1, 40, 3}, {6, 40, 3}, {5, -1, 3}, {5, 41, 3}, {5, 40, -4}, {5, 40, 4}};
        SleepyHelm x = new SleepyHelm();
        for (int[] w : wrong) {
            due(Call.of("hand", w).toString(), x.hand(w[0], w[1], w[2]), BAD);
        }
        due("count(0)", x.count(0), 0);
        int[][] right = {{0, 0, -3}, {5, 0, -3}, {0, 40, -3}, {0, 0, 3}, {5, 40, 3}, {3, 20, 0}};
        for (int h = 0; h < right.length; h++) {
            int[] r = right[h];
            due(Call.of("hand", r).toString(), x.hand(r[0], r[1], r[2]), h);
            for (int what = 0; what <= 2; what++) {
                due("of(" + h + ", " + what + ")", x.of(h, what), r[what]);
            }
        }
    }

    /** One of the crew may come in any watch: who is sleepy in it needs no voyage. */
    private static void sleepy(int kind, int watch, boolean fed, int tired, int want) {
        SleepyHelm x = new SleepyHelm();
        Ships.watches(x, watch);
        x.hand(kind, tired, 1);
        if (fed) {
            x.feed(0);
        }
        String when = "kind " + kind + " in watch " + watch + (fed ? ", fed" : "") + ", of " + tired;
        due(when + ": of(0, 4)", x.of(0, 4), want);
        due(when + ": now(2)", x.now(2), want > 0 ? 0 : NONE);
    }

    /** "0 PLAIN: n; 1." */
    private static void plain() {
        for (int tired : new int[] {0, 1, 40}) {
            for (int watch : new int[] {0, 1, 3, 4, 10, 24}) {
                sleepy(PLAIN, watch, UNFED, tired, tired);
                sleepy(PLAIN, watch, FED, tired, tired);
            }
        }
    }

    /** "1 COLD: as PLAIN, 3 less (0 at least) in WATCHES whose number by 4 leaves 0". */
    private static void cold() {
        int[] inTheCold = {0, 0, 0, 0, 1, 2};
        for (int watch : new int[] {0, 4, 8, 24, 28, 100}) {
            for (int tired = 0; tired <= 5; tired++) {
                sleepy(COLD, watch, UNFED, tired, inTheCold[tired]);
                sleepy(COLD, watch, FED, tired, inTheCold[tired]);
            }
            sleepy(COLD, watch, UNFED, 40, 37);
            for (int beside : new int[] {watch + 1, watch + 2, watch + 3}) {
                sleepy(COLD, beside, UNFED, 3, 3);
                sleepy(COLD, beside, FED, 40, 40);
            }
        }
    }

    /** "2 TALKER: half (cut) of PLAIN, if not FED, else as PLAIN". */
    private static void talker() {
        int[] half = {0, 0, 1, 1, 2, 2};
        for (int tired = 0; tired <= 5; tired++) {
            for (int watch : new int[] {0, 3, 4}) {
                sleepy(TALKER, watch, UNFED, tired, half[tired]);
                sleepy(TALKER, watch, FED, tired, tired);
            }
        }
        sleepy(TALKER, 0, UNFED, 39, 19);
        sleepy(TALKER, 0, UNFED, 40, 20);
        sleepy(TALKER, 0, FED, 40, 40);
    }

    /** "3 COOK: twice PLAIN, if FED", as PLAIN if not. */
    private static void cook() {
        for (int tired : new int[] {0, 1, 2, 39, 40}) {
            for (int watch : new int[] {0, 3, 4}) {
                sleepy(COOK, watch, UNFED, tired, tired);
                sleepy(COOK, watch, FED, tired, 2 * tired);
            }
        }
    }

    /** "4 MOONSTRUCK: as COLD, 5 more in WATCHES whose number by 7 leaves 3": 24 and 52 are both cold and moonlit. */
    private static void moonstruck() {
        for (int watch : new int[] {3, 10, 17, 31, 38, 45}) {
            sleepy(MOONSTRUCK, watch, UNFED, 0, 5);
            sleepy(MOONSTRUCK, watch, FED, 1, 6);
            sleepy(MOONSTRUCK, watch, UNFED, 40, 45);
        }
        for (int watch : new int[] {1, 2, 5, 6, 7, 9, 11, 13, 14, 18, 30, 39}) {
            sleepy(MOONSTRUCK, watch, UNFED, 0, 0);
            sleepy(MOONSTRUCK, watch, FED, 40, 40);
        }
        int[] inTheCold = {0, 0, 0, 0, 1};
        for (int tired = 0; tired <= 4; tired++) {
            for (int watch : new int[] {0, 4, 8, 20, 28, 48}) {
                sleepy(MOONSTRUCK, watch, UNFED, tired, inTheCold[tired]);
            }
            for (int watch : new int[] {24, 52, 80}) {
                sleepy(MOONSTRUCK, watch, UNFED, tired, inTheCold[tired] + 5);
            }
        }
    }

    /** "5 BOY: 0". */
    private static void boy() {
        for (int watch : new int[] {0, 1, 3, 4, 24}) {
            for (int tired : new int[] {0, 1, 40}) {
                sleepy(BOY, watch, UNFED, tired, 0);
                sleepy(BOY, watch, FED, tired, 0);
            }
        }
    }

    /** By 4 and by 7 as at first, also with the greatest numbers that a watch can have: 500 is 4 125, 500 is 7 71 and 3. */
    private static void kindsLateInTheVoyage() {
        int[] watches = {496, 497, 498, 499, 500, 501, 502, 503, 504, 505, 506, 507};
        int[] cold = {6, 9, 9, 9, 6, 9, 9, 9, 6, 9, 9, 9};
        int[] moonstruck = {6, 9, 9, 9, 11, 9, 9, 9, 6, 9, 9, 14};
        for (int k = 0; k < watches.length; k++) {
            sleepy(COLD, watches[k], UNFED, 9, cold[k]);
            sleepy(MOONSTRUCK, watches[k], UNFED, 9, moonstruck[k]);
        }
    }

    private static int steersOf(int... kindsAndTired) {
        SleepyHelm x = new SleepyHelm();
        for (int k = 0; k < kindsAndTired.length; k += 2) {
            x.hand(kindsAndTired[k], kindsAndTired[k + 1], 1);
        }
        int asked = x.now(2);
        int then = x.then(0, 1);
        int who = x.watch();
        due("now(2) is who steers", asked, who);
        due("then(0, 1) is who steers", then, who);
        return who;
    }

    /** "the SLEEPIEST steers (of like ones the first". */
    private static void ofLikeOnesTheFirst() {
        due("9 9", steersOf(PLAIN, 9, PLAIN, 9), 0);
        due("8 9", steersOf(PLAIN, 8, PLAIN, 9), 1);
        due("9 8", steersOf(PLAIN, 9, PLAIN, 8), 0);
        due("1 1 1 1 1 1", steersOf(PLAIN, 1, PLAIN, 1, COOK, 1, COOK, 1, PLAIN, 1, PLAIN, 1), 0);
        due("1 1 1 1 1 2", steersOf(PLAIN, 1, PLAIN, 1, COOK, 1, COOK, 1, PLAIN, 1, PLAIN, 2), 5);
        due("6, a cold one of 9", steersOf(PLAIN, 6, COLD, 9), 0);
        due("6, a cold one of 10", steersOf(PLAIN, 6, COLD, 10), 1);
        due("a cold one of 9, 6", steersOf(COLD, 9, PLAIN, 6), 0);
        due("6, a talker of 13", steersOf(PLAIN, 6, TALKER, 13), 0);
        due("6, a talker of 14", steersOf(PLAIN, 6, TALKER, 14), 1);
    }

    /** "nobody, if there is no CREW, or nobody is SLEEPY above 0)": the watch goes by all the same. */
    private static void nobodySteers() {
        due("no crew", steersOf(), NONE);
        due("plain 0", steersOf(PLAIN, 0), NONE);
        due("plain 1", steersOf(PLAIN, 1), 0);
        due("cold 3 in watch 0", steersOf(COLD, 3), NONE);
        due("cold 4 in watch 0", steersOf(COLD, 4), 0);
        due("talker 1", steersOf(TALKER, 1), NONE);
        due("talker 2", steersOf(TALKER, 2), 0);
        due("cook 0", steersOf(COOK, 0), NONE);
        due("moonstruck 3 in watch 0", steersOf(MOONSTRUCK, 3), NONE);
        due("moonstruck 4 in watch 0", steersOf(MOONSTRUCK, 4), 0);
        due("boy 40", steersOf(BOY, 40), NONE);
        due("all at their edge", steersOf(PLAIN, 0, COLD, 3, TALKER, 1, COOK, 0, MOONSTRUCK, 3, BOY, 40), NONE);
        SleepyHelm x = new SleepyHelm();
        int[] kinds = {PLAIN, COLD, TALKER, COOK, MOONSTRUCK, BOY};
        int[] tired = {0, 3, 1, 0, 3, 40};
        for (int h = 0; h <= 5; h++) {
            x.hand(kinds[h], tired[h], 3);
        }
        x.feed(0);
        x.watch();
        int[] thenTired = {1, 4, 3, 1, 4, 40};
        for (int h = 0; h <= 5; h++) {
            due("nobody steers: of(" + h + ", 1)", x.of(h, 1), thenTired[h]);
        }
        due("nobody steers: now(0)", x.now(0), 0);
        due("nobody steers: count(2)", x.count(2), 1);
        due("nobody steers: nobody is fed then", x.count(3), 0);
    }

    /** "her PLACE is as much more as that one NODS". */
    private static void steersByNods() {
        for (int nods = -3; nods <= 3; nods++) {
            SleepyHelm x = new SleepyHelm();
            x.hand(PLAIN, 8, 3);
            x.hand(PLAIN, 9, nods);
            x.watch();
            due("nods " + nods + ": now(0)", x.now(0), nods);
        }
    }

    /** "that one is 4 less TIRED (0 at least)". */
    private static void fourLessNothingAtLeast() {
        int[] tired = {1, 2, 3, 4, 5, 6, 40};
        int[] then = {0, 0, 0, 0, 1, 2, 36};
        for (int k = 0; k < tired.length; k++) {
            SleepyHelm x = new SleepyHelm();
            x.hand(COOK, tired[k], 1);
            x.watch();
            due("of " + tired[k] + ", he steered: of(0, 1)", x.of(0, 1), then[k]);
        }
    }

    /** "each other one as told": 1, 1, 2, 1, 1 and 0 more, fed or not. */
    private static void othersAreMoreTired() {
        int[] more = {1, 1, 2, 1, 1, 0};
        for (int kind = 0; kind <= 5; kind++) {
            for (int tired : new int[] {0, 1, 10}) {
                for (int fed = 0; fed <= 1; fed++) {
                    SleepyHelm x = new SleepyHelm();
                    x.hand(PLAIN, 40, 1);
                    x.hand(kind, tired, 1);
                    if (fed == 1) {
                        x.feed(1);
                    }
                    x.watch();
                    due("kind " + kind + " of " + tired + ": of(1, 1)", x.of(1, 1), tired + more[kind]);
                }
            }
        }
    }

    /** "(99 at most)": six of a kind, of whom one steers, grow more tired together until they are there. */
    private static void ninetyNineAtMost() {
        upToNinetyNine(PLAIN, 1, 335, 22);
        upToNinetyNine(COOK, 1, 335, 22);
        upToNinetyNine(COLD, 1, 335, 22);
        upToNinetyNine(MOONSTRUCK, 1, 335, 22);
        upToNinetyNine(TALKER, 2, 50, 60);
    }

    private static void upToNinetyNine(int kind, int more, int goBy, int looked) {
        SleepyHelm x = new SleepyHelm();
        for (int h = 0; h <= 5; h++) {
            x.hand(kind, 40, 0);
        }
        Ships.watches(x, goBy);
        int[] tired = tiredOf(x);
        int[] cases = new int[100];
        for (int w = 0; w < looked; w++) {
            int who = x.watch();
            int[] then = tiredOf(x);
            for (int h = 0; h <= 5; h++) {
                int want = h == who ? tired[h] - 4 : Math.min(99, tired[h] + more);
                due("kind " + kind + " of " + tired[h] + ": of(" + h + ", 1)", then[h], want);
                cases[tired[h]] += h == who ? 0 : 1;
            }
            tired = then;
        }
        for (int at = 99 - more; at <= 99; at++) {
            check.holds("kind " + kind + " was looked at when " + at, cases[at] > 0);
        }
    }

    private static int[] tiredOf(SleepyHelm x) {
        int[] tired = new int[6];
        for (int h = 0; h <= 5; h++) {
            tired[h] = x.of(h, 1);
        }
        return tired;
    }

    /** "nobody is FED then". */
    private static void nobodyIsFedThen() {
        SleepyHelm x = new SleepyHelm();
        for (int h = 0; h <= 5; h++) {
            x.hand(h, 20, 1);
            x.feed(h);
        }
        due("all are fed: count(3)", x.count(3), 6);
        x.watch();
        due("behind a watch: count(3)", x.count(3), 0);
        for (int h = 0; h <= 5; h++) {
            due("behind a watch: of(" + h + ", 3)", x.of(h, 3), 0);
            due("he may be fed again", x.feed(h), 1);
        }
    }

    /** "She STRIKES, if her PLACE then is a ROCK (and goes on)": not by passing one. */
    private static void strikes() {
        SleepyHelm x = new SleepyHelm();
        Ships.five(x, 3);
        x.rock(1);
        x.rock(2);
        x.rock(4);
        x.rock(5);
        due("strikes() of those that she passes", x.strikes(), NONE);
        x.rock(6);
        due("strikes()", x.strikes(), 2);
        Ships.watches(x, 2);
        due("she is on it: now(1)", x.now(1), 1);
        due("she is on it: rock(6)", x.rock(6), NO);
        due("she is on it: strikes()", x.strikes(), NONE);
        x.watch();
        due("she goes on: now(0)", x.now(0), 9);
        due("she goes on: now(1)", x.now(1), 0);
    }
}
