import java.util.function.Consumer;

/** The edges of THEN, STRIKES, PEAS, CAN NOT and EAT; each question is asked of a twin, too: it changes nothing. */
public final class ComingEdgeTest {
    private static final int NONE = -1;
    private static final int PLAIN = Ships.PLAIN, COLD = Ships.COLD, TALKER = Ships.TALKER, COOK = Ships.COOK,
        MOONSTRUCK = Ships.MOONSTRUCK, BOY = Ships.BOY;

    private static final Check check = new Check();

    public static void main(String[] args) {
        thenOfTheLeastAndTheMostWatches();
        thenFedInTheFirstAlone();
        thenNobody();
        strikesInOneToSixty();
        strikesFirst();
        strikesNot();
        peasOfTheLeastAndTheMostPlace();
        peasOfOneToFourWatches();
        peasOfTheIthWatch();
        peasOneInEachWatch();
        peasBesidesThoseFedNow();
        peasTheFirstWay();
        peasNone();
        canNotOfTheNextEight();
        canNotByAnySet();
        canNotGoingAsToldByThen();
        eatOfTheFirstAndTheLast();
        eatOfThoseWhoDoNotSteer();
        eatOfLikeOnes();
        eatInsteadOfAsNow();
        check.end();
    }

    private static Twins when(String told, Consumer<SleepyHelm> setUp) {
        return new Twins(check, told, setUp);
    }

    private static Twins fiveBehind(int watches, int... nods) {
        return when("five behind " + watches + " watches", x -> {
            Ships.five(x, nods);
            Ships.watches(x, watches);
        });
    }

    /** Kind, tired, nods of each, and who is fed as bits. */
    private static Twins crewOf(int fed, int[]... crew) {
        return when("a crew of " + crew.length, x -> {
            for (int[] h : crew) {
                x.hand(h[0], h[1], h[2]);
            }
            for (int h = 0; h < crew.length; h++) {
                if ((fed >> h & 1) == 1) {
                    x.feed(h);
                }
            }
        });
    }

    private static int[] hand(int kind, int tired, int nods) {
        return new int[] {kind, tired, nods};
    }

    /** "THEN: behind m WATCHES (0 .. 60 ...)": five go 3 a watch, and w by 5 left over steers. */
    private static void thenOfTheLeastAndTheMostWatches() {
        for (int nods = -3; nods <= 3; nods += 6) {
            Twins five = fiveBehind(0, nods);
            for (int m : new int[] {0, 1, 2, 59, 60}) {
                five.asked(Call.of("then", m, 0), m * nods);
                five.asked(Call.of("then", m, 1), m % 5);
            }
            five.refused(Call.of("then", -1, 0), -10000, Twins.BAD);
            five.refused(Call.of("then", 61, 0), -10000, Twins.BAD);
            five.refused(Call.of("then", 60, 2), -10000, Twins.BAD);
            five.refused(Call.of("then", 60, -1), -10000, Twins.BAD);
            Twins later = fiveBehind(23, nods);
            later.asked(Call.of("then", 0, 0), 23 * nods);
            later.asked(Call.of("then", 60, 0), 83 * nods);
            later.asked(Call.of("then", 60, 1), 3);
        }
    }

    /** "FED as now in the first, nobody in others": of 40 and 40 the fed cook steers, then of 41 and 36 the plain one. */
    private static void thenFedInTheFirstAlone() {
        Twins fed = crewOf(2, hand(PLAIN, 40, 0), hand(COOK, 40, 1));
        int[] steers = {1, 0, 0, 1, 0, 1};
        int[] places = {0, 1, 1, 1, 2, 2};
        Twins unfed = crewOf(0, hand(PLAIN, 40, 0), hand(COOK, 40, 1));
        int[] steersUnfed = {0, 1, 0, 1, 0, 1};
        int[] placesUnfed = {0, 0, 1, 1, 2, 2};
        for (int m = 0; m < steers.length; m++) {
            fed.asked(Call.of("then", m, 0), places[m]);
            fed.asked(Call.of("then", m, 1), steers[m]);
            unfed.asked(Call.of("then", m, 0), placesUnfed[m]);
            unfed.asked(Call.of("then", m, 1), steersUnfed[m]);
        }
    }

    /** "none: nobody": one of 0 is 1 behind a watch, steers in the next, and is 0 again. */
    private static void thenNobody() {
        Twins noCrew = when("no crew", Ships::empty);
        Twins boys = crewOf(3, hand(BOY, 40, 3), hand(BOY, 0, -3));
        Twins lone = crewOf(0, hand(PLAIN, 0, 3));
        for (int m : new int[] {0, 1, 59, 60}) {
            noCrew.asked(Call.of("then", m, 0), 0);
            noCrew.asked(Call.of("then", m, 1), NONE);
            boys.asked(Call.of("then", m, 0), 0);
            boys.asked(Call.of("then", m, 1), NONE);
            lone.asked(Call.of("then", m, 0), 3 * (m / 2));
            lone.asked(Call.of("then", m, 1), m % 2 == 0 ? NONE : 0);
        }
    }

    /**
     * "STRIKES: in how many WATCHES (1 .. 60)". Five who nod 3, -2, 0, 0, 0 bring her to c + 3 behind 5 c + 1 watches,
     * and to c + 1 behind the four next: she is at 15 first behind 61.
     */
    private static void strikesInOneToSixty() {
        int[] due = {NONE, 60, 59, 58};
        for (int w = 0; w < due.length; w++) {
            int gone = w;
            when("61 less " + w, x -> {
                Ships.five(x, 3, -2, 0, 0, 0);
                x.rock(15);
                Ships.watches(x, gone);
            }).asked(Call.of("strikes"), due[w]);
        }
        for (int side = -1; side <= 1; side += 2) {
            int nods = side;
            for (int place : new int[] {1, 2, 59, 60}) {
                when("she goes " + nods, x -> {
                    Ships.five(x, nods);
                    x.rock(nods * place);
                }).asked(Call.of("strikes"), place);
            }
        }
    }

    private static void strikesFirst() {
        when("the nearest of six", x -> {
            Ships.five(x, 1);
            for (int place : new int[] {60, 50, 7, -1, 0, 9}) {
                x.rock(place);
            }
        }).asked(Call.of("strikes"), 7);
        when("she lies on it", x -> x.rock(0)).asked(Call.of("strikes"), 1);
        when("she goes from it and comes back", x -> {
            Ships.five(x, 3, -3);
            x.rock(0);
        }).asked(Call.of("strikes"), 2);
    }

    private static void strikesNot() {
        when("no rocks", x -> Ships.five(x, 1)).asked(Call.of("strikes"), NONE);
        when("no rocks, no crew", Ships::empty).asked(Call.of("strikes"), NONE);
        when("the rock behind her", x -> {
            Ships.five(x, 1);
            x.rock(0);
            x.rock(-1);
        }).asked(Call.of("strikes"), NONE);
    }

    /** "PEAS for PLACE p (-60 .. 60)". */
    private static void peasOfTheLeastAndTheMostPlace() {
        for (int side = -1; side <= 1; side += 2) {
            Twins near = fiveBehind(19, 3 * side);
            near.asked(Call.of("peas", 60 * side, 1, -1), 0);
            near.asked(Call.of("peas", 60 * side, 1, 0), 6);
            near.asked(Call.of("peas", 59 * side, 1, -1), NONE);
            Twins there = fiveBehind(60, side);
            there.asked(Call.of("peas", 60 * side, 1, -1), NONE);
            there.refused(Call.of("peas", 61 * side, 1, -1), -10, Twins.BAD);
            there.refused(Call.of("peas", 61 * side, 1, 0), -10, Twins.BAD);
            Twins fourOff = fiveBehind(16, 3 * side);
            fourOff.asked(Call.of("peas", 60 * side, 4, -1), 0);
            fourOff.asked(Call.of("peas", 60 * side, 3, -1), NONE);
            Twins beyond = fiveBehind(61, side);
            beyond.asked(Call.of("peas", 60 * side, 4, -1), NONE);
            Twins far = fiveBehind(100, 3 * side);
            far.asked(Call.of("peas", 60 * side, 4, -1), NONE);
            far.asked(Call.of("peas", -60 * side, 4, -1), NONE);
        }
        Twins still = when("no crew", Ships::empty);
        still.asked(Call.of("peas", 60, 4, -1), NONE);
        still.asked(Call.of("peas", -60, 4, -1), NONE);
    }

    /** "behind n WATCHES (1 .. 4)". */
    private static void peasOfOneToFourWatches() {
        Twins five = fiveBehind(0, 2);
        for (int n = 1; n <= 4; n++) {
            five.asked(Call.of("peas", 2 * n, n, -1), 0);
            five.asked(Call.of("peas", 2 * n + 1, n, -1), NONE);
            five.asked(Call.of("peas", 2 * n - 1, n, -1), NONE);
            five.asked(Call.of("peas", 2 * n + 2, n, -1), NONE);
        }
        five.refused(Call.of("peas", 0, 0, -1), -10, Twins.BAD);
        five.refused(Call.of("peas", 10, 5, -1), -10, Twins.BAD);
    }

    /** "who in the i-th WATCH (6: nobody) ... -5: not so many": i is 0 .. n - 1. */
    private static void peasOfTheIthWatch() {
        Twins still = when("no crew", Ships::empty);
        for (int n = 1; n <= 4; n++) {
            still.asked(Call.of("peas", 0, n, -1), 0);
            still.asked(Call.of("peas", 0, n, 0), 6);
            still.asked(Call.of("peas", 0, n, n - 1), 6);
            still.asked(Call.of("peas", 0, n, n), -5);
            still.asked(Call.of("peas", 0, n, n + 1), -5);
            still.asked(Call.of("peas", 0, n, Integer.MAX_VALUE), -5);
            still.refused(Call.of("peas", 0, n, -2), -10, Twins.BAD);
            still.refused(Call.of("peas", 0, n, Integer.MIN_VALUE), -10, Twins.BAD);
        }
    }

    private static void way(Twins twins, int p, int peas, int... who) {
        twins.asked(Call.of("peas", p, who.length, -1), peas);
        for (int i = 0; i < who.length; i++) {
            twins.asked(Call.of("peas", p, who.length, i), who[i]);
        }
        twins.asked(Call.of("peas", p, who.length, who.length), -5);
    }

    /**
     * "in each WATCH one of the CREW, or nobody": as many as there are watches, at most. Of 40 and 40 the plain one
     * steers; then 36 41, the cook; 37 37; 33 38. Who eats in each watch steers in each: 80, 72, 64, 56 against 43.
     */
    private static void peasOneInEachWatch() {
        Twins two = crewOf(0, hand(PLAIN, 40, 0), hand(COOK, 40, 1));
        way(two, 0, 0, 6);
        way(two, 1, 1, 1);
        way(two, 1, 0, 6, 6);
        way(two, 2, 2, 1, 1);
        way(two, 1, 0, 6, 6, 6);
        way(two, 2, 1, 6, 6, 1);
        way(two, 3, 3, 1, 1, 1);
        way(two, 2, 0, 6, 6, 6, 6);
        way(two, 3, 2, 6, 6, 1, 1);
        way(two, 4, 4, 1, 1, 1, 1);
        two.asked(Call.of("peas", 5, 4, -1), NONE);
        two.asked(Call.of("peas", 1, 4, -1), NONE);
        two.asked(Call.of("peas", 0, 2, -1), NONE);
    }

    /** "(in the first besides those FED now)": 30, 32 for the fed cook, 40 for a talker who eats, too; then 16 less. */
    private static void peasBesidesThoseFedNow() {
        Twins fed = crewOf(2, hand(PLAIN, 30, 0), hand(COOK, 16, 1), hand(TALKER, 40, 2));
        way(fed, 1, 0, 6);
        way(fed, 2, 1, 2);
        fed.asked(Call.of("peas", 0, 1, -1), NONE);
        // Behind the cook's watch: 31 12 42: unfed 31 12 21, and the cook's peas are 24 alone: he can not steer again.
        way(fed, 1, 0, 6, 6);
        way(fed, 3, 1, 6, 2);
        Twins unfed = crewOf(0, hand(PLAIN, 30, 0), hand(COOK, 16, 1), hand(TALKER, 40, 2));
        way(unfed, 0, 0, 6);
        way(unfed, 1, 1, 1);
        way(unfed, 2, 1, 2);
    }

    /** "by the first such way (nobody ahead of all, then rising)". */
    private static void peasTheFirstWay() {
        // Either watch may be the cook's: that he eats in the second comes first.
        way(crewOf(0, hand(PLAIN, 40, 0), hand(COOK, 30, 1)), 1, 1, 6, 1);
        // Three cooks nod alike: the first of them, whatever his number is.
        way(crewOf(0, hand(PLAIN, 40, 0), hand(COOK, 30, 1), hand(COOK, 30, 1), hand(COOK, 30, 1)), 1, 1, 1);
        way(crewOf(0, hand(COOK, 30, 1), hand(COOK, 30, 1), hand(COOK, 30, 1), hand(PLAIN, 40, 0)), 1, 1, 0);
        way(crewOf(0, hand(PLAIN, 40, 0), hand(COOK, 20, 1), hand(COOK, 30, 1), hand(COOK, 30, 1)), 1, 1, 2);
        // The last of six is the only one.
        way(crewOf(0, hand(PLAIN, 40, 0), hand(PLAIN, 9, 1), hand(PLAIN, 9, 1), hand(PLAIN, 9, 1), hand(PLAIN, 9, 1),
            hand(COOK, 30, 1)), 1, 1, 5);
    }

    /** "NONE: none (whatever i is)": but a number below NONE is not as told. */
    private static void peasNone() {
        Twins five = fiveBehind(0, 1);
        for (int i : new int[] {-1, 0, 1, 3, 4, 6, Integer.MAX_VALUE}) {
            five.asked(Call.of("peas", 7, 2, i), NONE);
        }
        five.refused(Call.of("peas", 7, 2, -2), -10, Twins.BAD);
    }

    /** "WATCHES of the next 8 (bits; bit 0 is this one)": peas are nothing to plain ones. */
    private static void canNotOfTheNextEight() {
        int[] steersIn = {1 + 32, 2 + 64, 4 + 128, 8, 16};
        for (int h = 0; h <= 4; h++) {
            fiveBehind(0, 1).asked(Call.of("canNot", h), 255 - steersIn[h]);
            fiveBehind(1, 1).asked(Call.of("canNot", h), 255 - steersIn[(h + 4) % 5]);
            fiveBehind(8, 1).asked(Call.of("canNot", h), 255 - steersIn[(h + 2) % 5]);
        }
        crewOf(0, hand(PLAIN, 40, 1)).asked(Call.of("canNot", 0), 0);
        crewOf(0, hand(BOY, 40, 1)).asked(Call.of("canNot", 0), 255);
        // One who steers alone is 4 less each watch: of 29 he is 1 in the eighth, of 28 he is not sleepy in it.
        crewOf(0, hand(PLAIN, 29, 1)).asked(Call.of("canNot", 0), 0);
        crewOf(0, hand(PLAIN, 28, 1)).asked(Call.of("canNot", 0), 128);
    }

    private static void inThisWatch(boolean can, int hand, int[]... crew) {
        SleepyHelm x = new SleepyHelm();
        for (int[] h : crew) {
            x.hand(h[0], h[1], h[2]);
        }
        check.due("canNot(" + hand + "), this watch", x.canNot(hand) & 1, can ? 0 : 1);
    }

    /** "does not steer by any set of all FED in it": like ones, and nothing at all, are the edge. */
    private static void canNotByAnySet() {
        inThisWatch(false, 1, hand(PLAIN, 9, 1), hand(PLAIN, 9, 1));
        inThisWatch(true, 0, hand(PLAIN, 9, 1), hand(PLAIN, 9, 1));
        inThisWatch(true, 1, hand(PLAIN, 9, 1), hand(PLAIN, 10, 1));
        inThisWatch(false, 1, hand(PLAIN, 20, 1), hand(TALKER, 20, 1));
        inThisWatch(true, 1, hand(PLAIN, 19, 1), hand(TALKER, 20, 1));
        inThisWatch(true, 0, hand(TALKER, 20, 1), hand(PLAIN, 20, 1));
        inThisWatch(false, 0, hand(TALKER, 20, 1), hand(PLAIN, 21, 1));
        inThisWatch(false, 1, hand(TALKER, 20, 1), hand(PLAIN, 10, 1));
        inThisWatch(true, 1, hand(TALKER, 20, 1), hand(PLAIN, 11, 1));
        inThisWatch(false, 1, hand(PLAIN, 20, 1), hand(COOK, 10, 1));
        inThisWatch(true, 1, hand(PLAIN, 20, 1), hand(COOK, 11, 1));
        inThisWatch(false, 0, hand(PLAIN, 20, 1), hand(COOK, 21, 1));
        inThisWatch(true, 0, hand(PLAIN, 20, 1), hand(COOK, 20, 1));
        inThisWatch(false, 0, hand(PLAIN, 0, 1));
        inThisWatch(true, 0, hand(PLAIN, 1, 1));
        inThisWatch(false, 0, hand(COLD, 3, 1));
        inThisWatch(true, 0, hand(COLD, 4, 1));
        inThisWatch(false, 0, hand(TALKER, 0, 1));
        inThisWatch(true, 0, hand(TALKER, 1, 1));
        inThisWatch(false, 0, hand(COOK, 0, 1));
        inThisWatch(false, 0, hand(MOONSTRUCK, 3, 1));
        inThisWatch(true, 5, hand(TALKER, 18, 1), hand(TALKER, 18, 1), hand(COOK, 9, 1), hand(COLD, 12, 1),
            hand(BOY, 40, 1), hand(COOK, 5, 1));
        inThisWatch(false, 5, hand(TALKER, 18, 1), hand(TALKER, 18, 1), hand(COOK, 10, 1), hand(COLD, 12, 1),
            hand(BOY, 40, 1), hand(COOK, 5, 1));
    }

    /** "all going as told by THEN up to it": 40 40 unfed: 36 41, 37 37, 33 38 ..; the cook fed: 41 36, 37 37, 33 38 .. */
    private static void canNotGoingAsToldByThen() {
        crewOf(0, hand(PLAIN, 40, 0), hand(COOK, 40, 1)).asked(Call.of("canNot", 0), 2 + 8 + 32 + 128);
        crewOf(2, hand(PLAIN, 40, 0), hand(COOK, 40, 1)).asked(Call.of("canNot", 0), 8 + 32 + 128);
        crewOf(0, hand(PLAIN, 40, 0), hand(COOK, 40, 1)).asked(Call.of("canNot", 1), 0);
        crewOf(2, hand(PLAIN, 40, 0), hand(COOK, 40, 1)).asked(Call.of("canNot", 1), 0);
    }

    /** "two unlike ones a, b": the first and the last of six, either way round. */
    private static void eatOfTheFirstAndTheLast() {
        Twins six = crewOf(0, hand(PLAIN, 20, 1), hand(PLAIN, 1, 1), hand(PLAIN, 1, 1), hand(PLAIN, 1, 1),
            hand(PLAIN, 1, 1), hand(COOK, 11, 1));
        // The cook steers if he eats (22): he rests only where he does not, whatever the plain one does.
        six.asked(Call.of("eat", 0, 5), 1 + 2);
        six.asked(Call.of("eat", 5, 0), 1 + 4);
        six.asked(Call.of("eat", 4, 5), 1 + 2);
        six.asked(Call.of("eat", 5, 4), 1 + 4);
        six.asked(Call.of("eat", 0, 1), 15);
        six.refused(Call.of("eat", 5, 5), -2, Twins.BAD);
        six.refused(Call.of("eat", 0, 0), -2, Twins.BAD);
        six.refused(Call.of("eat", 5, 6), -2, Twins.BAD);
        six.refused(Call.of("eat", 6, 5), -2, Twins.BAD);
        six.refused(Call.of("eat", -1, 0), -2, Twins.BAD);
        six.refused(Call.of("eat", 0, -1), -2, Twins.BAD);
    }

    /** Who does not steer either way can get no more: all pairs rest. */
    private static void eatOfThoseWhoDoNotSteer() {
        crewOf(0, hand(BOY, 40, 1), hand(BOY, 40, 1)).asked(Call.of("eat", 0, 1), 15);
        crewOf(0, hand(PLAIN, 0, 1), hand(COOK, 0, 1)).asked(Call.of("eat", 0, 1), 15);
        // A talker of 1 is 0, and 1 if he eats.
        crewOf(0, hand(BOY, 40, 1), hand(TALKER, 1, 1)).asked(Call.of("eat", 0, 1), 1 + 2);
        crewOf(0, hand(BOY, 40, 1), hand(TALKER, 0, 1)).asked(Call.of("eat", 0, 1), 15);
    }

    private static void eatOfLikeOnes() {
        // Unfed 10 and 10: the plain one, as the first; fed 20: the talker.
        crewOf(0, hand(PLAIN, 10, 1), hand(TALKER, 20, 1)).asked(Call.of("eat", 0, 1), 1 + 2);
        // Unfed 10 and 10: the talker, as the first: he steers either way.
        crewOf(0, hand(TALKER, 20, 1), hand(PLAIN, 10, 1)).asked(Call.of("eat", 0, 1), 15);
        // Unfed 10 against 11: he does not steer by fasting.
        crewOf(0, hand(TALKER, 20, 1), hand(PLAIN, 11, 1)).asked(Call.of("eat", 0, 1), 1 + 4);
        // Cooks 10 10: neither: the first steers, and can not help it. One eats: he steers; the first can not help it.
        crewOf(0, hand(COOK, 10, 1), hand(COOK, 10, 1)).asked(Call.of("eat", 0, 1), 1 + 2);
        // Cooks 10 20: the second steers but where the first eats and he does not (20 20).
        crewOf(0, hand(COOK, 10, 1), hand(COOK, 20, 1)).asked(Call.of("eat", 0, 1), 1 + 4);
        // Cooks 10 21: the second steers always.
        crewOf(0, hand(COOK, 10, 1), hand(COOK, 21, 1)).asked(Call.of("eat", 0, 1), 15);
    }

    /** "may be FED in this WATCH or not (instead of as now)": the two alone, others as now. */
    private static void eatInsteadOfAsNow() {
        for (int fed = 0; fed <= 3; fed++) {
            crewOf(fed, hand(PLAIN, 10, 1), hand(TALKER, 20, 1)).asked(Call.of("eat", 0, 1), 1 + 2);
            crewOf(fed, hand(COOK, 10, 1), hand(COOK, 20, 1)).asked(Call.of("eat", 0, 1), 1 + 4);
            // A third of 20 steers by eating alone: then the second would steer only if he ate.
            crewOf(fed, hand(COOK, 10, 1), hand(COOK, 20, 1), hand(COOK, 20, 1)).asked(Call.of("eat", 0, 1), 1 + 4);
            crewOf(fed | 4, hand(COOK, 10, 1), hand(COOK, 20, 1), hand(COOK, 20, 1)).asked(Call.of("eat", 0, 1), 1 + 2);
            crewOf(fed | 4, hand(COOK, 10, 1), hand(COOK, 19, 1), hand(COOK, 20, 1)).asked(Call.of("eat", 0, 1), 15);
        }
    }
}
