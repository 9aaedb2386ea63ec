import java.math.BigInteger;
import java.util.function.Consumer;

/** The edges of SEEN, NOD, IS, LOOK, PULLED, MEET, CROSS, ODDS and VOYAGES. */
public final class SeenEdgeTest {
    private static final int NONE = -1, BAD = -2, FULL = -4;
    private static final int PLAIN = Ships.PLAIN, TALKER = Ships.TALKER, COOK = Ships.COOK, BOY = Ships.BOY;
    private static final int ALL_NODS = 127, ALL_KINDS = 63, ALL_PULLS = (1 << 20) - 1;

    private static final Check check = new Check();

    public static void main(String[] args) {
        seenOfTheLeastAndTheMost();
        seenUpToSix();
        seenIsFromNow();
        forgetAllOrNone();
        nodNothingSeen();
        nodOfTheLeastAndTheMost();
        nodOfOneWhoDoesNotSteer();
        nodOfAllSeen();
        isOfTheFirstAndTheLastKind();
        isOfTheLeastSleep();
        isAsSuchAShipGoes();
        lookOfTheLeastAndTheMost();
        lookOfLikeOnesTheFirst();
        lookNone();
        pulledByTheLeastAndTheMost();
        pulledInTheFirstAndTheLast();
        pulledOfAllSeen();
        meetOfTheLeastAndTheMost();
        meetBehindSixty();
        crossBehindSixty();
        inOnePlaceNow();
        crossWithoutMeeting();
        oddsOfNothingAndAll();
        oddsInLowestTerms();
        oddsOfSix();
        oddsChangeTheFractionAlone();
        voyagesOfTheLeastAndTheMost();
        voyagesAsTheyWouldGo();
        voyagesOfNoWatches();
        check.end();
    }

    private static Twins when(String told, Consumer<SleepyHelm> setUp) {
        return new Twins(check, told, setUp);
    }

    /** Five who nod so, behind so many watches, and what was seen: m, p, m, p .. */
    private static Twins fiveSeen(int nods, int watches, int... seen) {
        return when("five who nod " + nods + ", behind " + watches, x -> {
            Ships.five(x, nods);
            Ships.watches(x, watches);
            see(x, seen);
        });
    }

    private static Twins stillSeen(int... seen) {
        return when("she lies still", x -> see(x, seen));
    }

    private static void see(SleepyHelm x, int... seen) {
        for (int k = 0; k < seen.length; k += 2) {
            x.seen(seen[k], seen[k + 1]);
        }
    }

    private static int nodBit(int nods) {
        return 1 << (nods + 3);
    }

    /** "behind m WATCHES (0 .. 20) from now she was at PLACE p (-60 .. 60)". */
    private static void seenOfTheLeastAndTheMost() {
        SleepyHelm x = new SleepyHelm();
        int[][] wrong = {{-1, 60}, {21, 60}, {20, 61}, {20, -61}, {-1, -60}, {21, -60}, {0, 61}, {0, -61}};
        for (int[] w : wrong) {
            check.due(Call.of("seen", w).toString(), x.seen(w[0], w[1]), BAD);
        }
        check.due("count(4)", x.count(4), 0);
        int[][] right = {{0, 60}, {0, -60}, {20, 60}, {20, -60}};
        check.due("digest()", x.digest(), digestOfSeen(right, 0));
        for (int k = 0; k < right.length; k++) {
            check.due(Call.of("seen", right[k]).toString(), x.seen(right[k][0], right[k][1]), k + 1);
            check.due("digest()", x.digest(), digestOfSeen(right, k + 1));
        }
        // She is at 60 and at -60 behind 20 watches, and not one place off.
        for (int side = -1; side <= 1; side += 2) {
            fiveSeen(3 * side, 0, 20, 60 * side).asked(Call.of("pulled", 0), ALL_PULLS);
            fiveSeen(3 * side, 0, 20, 59 * side).asked(Call.of("pulled", 0), 0);
            fiveSeen(3 * side, 0, 19, 60 * side).asked(Call.of("pulled", 0), 0);
            fiveSeen(3 * side, 20, 0, 60 * side).asked(Call.of("pulled", 0), ALL_PULLS);
            fiveSeen(3 * side, 21, 0, 60 * side).asked(Call.of("pulled", 0), 0);
        }
    }

    /** No crew, no rocks: the counts and her place, then m and p of each, then 0 by 1. */
    private static long digestOfSeen(int[][] seen, int n) {
        long h = 1181;
        for (int v : new int[] {0, 0, 0, 0, n, 0, 0, 0}) {
            h = 31 * h + v;
        }
        for (int k = 0; k < n; k++) {
            h = 31 * (31 * h + seen[k][0]) + seen[k][1];
        }
        return 31 * (31 * h) + 1;
    }

    /** "SEEN 0 .. 5, as they come": the sixth counts, a seventh does not. */
    private static void seenUpToSix() {
        SleepyHelm x = new SleepyHelm();
        x.hand(BOY, 1, 1);
        for (int k = 1; k <= 5; k++) {
            check.due("seen " + k, x.seen(k, 0), k);
        }
        check.due("five that fit: nod(0)", x.nod(0), ALL_NODS);
        check.due("seen 6", x.seen(6, 0), 6);
        check.due("seen 7, which would not fit", x.seen(7, 1), FULL);
        check.due("count(4)", x.count(4), 6);
        check.due("six that fit: nod(0)", x.nod(0), ALL_NODS);
        x.forget();
        for (int k = 1; k <= 5; k++) {
            x.seen(k, 0);
        }
        x.seen(6, 1);
        check.due("the sixth does not fit: nod(0)", x.nod(0), 0);
        check.due("the sixth does not fit: is(0)", x.is(0), 0);
        check.due("the sixth does not fit: pulled(0)", x.pulled(0), 0);
        check.due("the sixth does not fit: look(0)", x.look(0), NONE);
        check.due("pulled in the sixth: pulled(1)", x.pulled(1), 32);
    }

    /** "from now": in the watch in which one asks. */
    private static void seenIsFromNow() {
        SleepyHelm x = new SleepyHelm();
        Ships.five(x, 1);
        x.seen(2, 3);
        check.due("2 behind 2: pulled(0)", x.pulled(0), 0);
        x.watch();
        check.due("3 behind 2 from now: pulled(0)", x.pulled(0), ALL_PULLS);
        x.watch();
        check.due("4 behind 2 from now: pulled(0)", x.pulled(0), 0);
        x.undo();
        check.due("undone: pulled(0)", x.pulled(0), ALL_PULLS);
    }

    private static void forgetAllOrNone() {
        SleepyHelm x = new SleepyHelm();
        check.due("forget() of none", x.forget(), 0);
        for (int k = 0; k <= 6; k++) {
            x.seen(k, 60);
        }
        check.due("forget() of six", x.forget(), 6);
        check.due("count(4)", x.count(4), 0);
        check.due("forget() again", x.forget(), 0);
        check.due("seen() is the first again", x.seen(0, 0), 1);
        check.due("what was forgotten does not count", x.pulled(0), ALL_PULLS);
        check.due("none was refused but the seventh", x.status(2), 1);
    }

    private static void nodNothingSeen() {
        for (int h = 0; h <= 4; h++) {
            fiveSeen(2, 3).asked(Call.of("nod", h), ALL_NODS);
        }
        when("no crew", Ships::empty).refused(Call.of("nod", 0), BAD, Twins.BAD);
    }

    /** "NOD: -3 .. 3 ... (bits: -3 is bit 0)": number 0 steers in 4 of 20 watches. */
    private static void nodOfTheLeastAndTheMost() {
        for (int nods = -3; nods <= 3; nods++) {
            fiveSeen(0, 0, 20, 4 * nods).asked(Call.of("nod", 0), nodBit(nods));
            fiveSeen(0, 0, 1, nods).asked(Call.of("nod", 0), nodBit(nods));
            fiveSeen(nods, 0, 1, nods).asked(Call.of("nod", 0), nodBit(nods));
            fiveSeen(nods, 0, 20, 20 * nods).asked(Call.of("nod", 4), nodBit(nods));
        }
        fiveSeen(0, 0, 20, 16).asked(Call.of("nod", 0), 0);
        fiveSeen(0, 0, 20, -16).asked(Call.of("nod", 0), 0);
        fiveSeen(0, 0, 20, 11).asked(Call.of("nod", 0), 0);
        fiveSeen(0, 0, 1, 4).asked(Call.of("nod", 0), 0);
        fiveSeen(0, 0, 1, -4).asked(Call.of("nod", 0), 0);
    }

    /** Number 4 steers first in watch 4: she shows it behind 5 watches, not behind 4. */
    private static void nodOfOneWhoDoesNotSteer() {
        fiveSeen(2, 0, 4, 8).asked(Call.of("nod", 4), ALL_NODS);
        fiveSeen(2, 0, 4, 9).asked(Call.of("nod", 4), 0);
        fiveSeen(2, 0, 5, 10).asked(Call.of("nod", 4), nodBit(2));
        fiveSeen(2, 0, 5, 11).asked(Call.of("nod", 4), nodBit(3));
        fiveSeen(2, 0, 5, 12).asked(Call.of("nod", 4), 0);
        fiveSeen(2, 7, 0, 14).asked(Call.of("nod", 4), ALL_NODS);
        fiveSeen(2, 7, 0, 13).asked(Call.of("nod", 4), 0);
        fiveSeen(2, 7, 2, 18).asked(Call.of("nod", 4), ALL_NODS);
        fiveSeen(2, 7, 3, 20).asked(Call.of("nod", 4), nodBit(2));
    }

    private static void nodOfAllSeen() {
        fiveSeen(1, 0, 0, 0, 1, 1, 5, 5, 6, 6, 20, 20, 20, 20).asked(Call.of("nod", 0), nodBit(1));
        fiveSeen(1, 0, 0, 0, 1, 1, 5, 5, 6, 6, 20, 20, 20, 21).asked(Call.of("nod", 0), 0);
        fiveSeen(1, 0, 0, 1, 1, 1, 5, 5, 6, 6, 20, 20, 20, 20).asked(Call.of("nod", 0), 0);
        // By 3 she is at 3 behind 1 watch, and at 10 behind 6: he steered twice, each time 2 more.
        fiveSeen(1, 0, 1, 3, 6, 10).asked(Call.of("nod", 0), nodBit(3));
        fiveSeen(1, 0, 1, 3, 6, 8).asked(Call.of("nod", 0), 0);
    }

    private static Twins loneSeen(int watches, int tired, boolean fed, int... seen) {
        return when("one of " + tired + " in watch " + watches, x -> {
            Ships.watches(x, watches);
            x.hand(PLAIN, tired, 1);
            if (fed) {
                x.feed(0);
            }
            see(x, seen);
        });
    }

    /** "IS: KINDS (bits) by which they are": all but a boy steer if they are tired enough. */
    private static void isOfTheFirstAndTheLastKind() {
        loneSeen(0, 40, false).asked(Call.of("is", 0), ALL_KINDS);
        loneSeen(0, 40, false, 0, 0).asked(Call.of("is", 0), ALL_KINDS);
        loneSeen(0, 40, false, 0, 1).asked(Call.of("is", 0), 0);
        loneSeen(0, 40, false, 1, 1).asked(Call.of("is", 0), ALL_KINDS - (1 << BOY));
        loneSeen(0, 40, false, 1, 0).asked(Call.of("is", 0), 1 << BOY);
        loneSeen(0, 40, false, 1, 2).asked(Call.of("is", 0), 0);
        loneSeen(0, 40, false, 20, 0).asked(Call.of("is", 0), 1 << BOY);
        when("no crew", Ships::empty).refused(Call.of("is", 0), BAD, Twins.BAD);
    }

    /** One of 1 in a cold watch, one of 0 by the moon. */
    private static void isOfTheLeastSleep() {
        loneSeen(0, 1, false, 1, 1).asked(Call.of("is", 0), 1 + 8);
        loneSeen(0, 1, false, 1, 0).asked(Call.of("is", 0), 2 + 4 + 16 + 32);
        loneSeen(0, 1, true, 1, 1).asked(Call.of("is", 0), 1 + 4 + 8);
        loneSeen(0, 1, true, 1, 0).asked(Call.of("is", 0), 2 + 16 + 32);
        loneSeen(0, 3, false, 1, 1).asked(Call.of("is", 0), 1 + 4 + 8);
        loneSeen(0, 4, false, 1, 1).asked(Call.of("is", 0), 31);
        loneSeen(3, 0, false, 1, 1).asked(Call.of("is", 0), 16);
        loneSeen(4, 0, false, 1, 1).asked(Call.of("is", 0), 0);
        loneSeen(24, 3, false, 1, 0).asked(Call.of("is", 0), 2 + 32);
    }

    /** A kind fits, if a ship with one of that kind goes as was seen. */
    private static void isAsSuchAShipGoes() {
        for (int m = 0; m <= 20; m++) {
            for (int p = -2; p <= 8; p++) {
                int bits = 0;
                for (int kind = 0; kind <= 5; kind++) {
                    bits |= crewWith(kind).then(m, 0) == p ? 1 << kind : 0;
                }
                SleepyHelm x = crewWith(PLAIN);
                x.seen(m, p);
                check.due("seen(" + m + ", " + p + "): is(1)", x.is(1), bits);
            }
        }
    }

    private static SleepyHelm crewWith(int kind) {
        SleepyHelm x = new SleepyHelm();
        x.hand(TALKER, 19, -1);
        x.hand(kind, 12, 2);
        x.hand(COOK, 11, 0);
        x.feed(1);
        return x;
    }

    /** One who comes behind so many watches of the five, so tired: he steers when he is above 40 in a watch that 5 divides. */
    private static Twins lateComer(int watches, int tired, int... seen) {
        return when("one of " + tired + " comes behind " + watches, x -> {
            Ships.five(x, 1);
            Ships.watches(x, watches);
            x.hand(PLAIN, tired, 2);
            see(x, seen);
        });
    }

    /** "LOOK: the WATCH (0 .. 20) behind which ... are fewest; of like ones the first". */
    private static void lookOfTheLeastAndTheMost() {
        lateComer(2, 23).asked(Call.of("then", 18, 1), 5);
        lateComer(2, 23).asked(Call.of("look", 5), 19);
        lateComer(1, 22).asked(Call.of("then", 19, 1), 5);
        lateComer(1, 22).asked(Call.of("look", 5), 20);
        lateComer(0, 21).asked(Call.of("then", 20, 1), 5);
        lateComer(0, 21).asked(Call.of("look", 5), 0);
        for (int h = 0; h <= 4; h++) {
            fiveSeen(1, 0).asked(Call.of("look", h), h + 1);
            fiveSeen(1, 3).asked(Call.of("look", h), (h + 2) % 5 + 1);
        }
    }

    /** Of one NOD all watches are alike; of all NODS, if he never steers. */
    private static void lookOfLikeOnesTheFirst() {
        fiveSeen(1, 0, 1, 1).asked(Call.of("look", 0), 0);
        fiveSeen(1, 0, 1, -3).asked(Call.of("look", 0), 0);
        fiveSeen(1, 0, 4, 4).asked(Call.of("look", 4), 5);
        fiveSeen(1, 0, 5, 5).asked(Call.of("look", 4), 0);
        lateComer(1, 22, 19, 20).asked(Call.of("look", 5), 20);
        lateComer(1, 22, 20, 22).asked(Call.of("look", 5), 0);
        when("a boy", x -> x.hand(BOY, 40, 1)).asked(Call.of("look", 0), 0);
        // By 3 of his own she is at 0 again behind two watches: it is the first of them that tells.
        when("there and back", x -> Ships.five(x, 3, -3)).asked(Call.of("look", 0), 1);
    }

    /** "none: no NOD". */
    private static void lookNone() {
        fiveSeen(1, 0, 0, 1).asked(Call.of("look", 0), NONE);
        fiveSeen(1, 0, 1, 4).asked(Call.of("look", 0), NONE);
        fiveSeen(1, 0, 1, -4).asked(Call.of("look", 0), NONE);
        fiveSeen(1, 0, 4, 5).asked(Call.of("look", 4), NONE);
        when("no crew", Ships::empty).refused(Call.of("look", 0), BAD, Twins.BAD);
    }

    /** "PULLED by b (-9 .. 9) once". */
    private static void pulledByTheLeastAndTheMost() {
        for (int b = -9; b <= 9; b++) {
            stillSeen(1, b).asked(Call.of("pulled", b), b == 0 ? ALL_PULLS : 1);
            stillSeen(1, b + 1).asked(Call.of("pulled", b), b == -1 ? ALL_PULLS - 1 : 0);
            stillSeen().asked(Call.of("pulled", b), ALL_PULLS);
            fiveSeen(3, 0, 20, 51).asked(Call.of("pulled", b), b == -9 ? ALL_PULLS : 0);
        }
        stillSeen(1, 10).refused(Call.of("pulled", 10), BAD, Twins.BAD);
        stillSeen(1, -10).refused(Call.of("pulled", -10), BAD, Twins.BAD);
        stillSeen(1, 10).asked(Call.of("pulled", 9), 0);
    }

    /** "WATCHES (of the next 20; bits)": bit k is seen behind k + 1 watches and more, this watch's behind 1. */
    private static void pulledInTheFirstAndTheLast() {
        stillSeen(0, 0).asked(Call.of("pulled", 5), ALL_PULLS);
        stillSeen(0, 5).asked(Call.of("pulled", 5), 0);
        stillSeen(0, 0, 1, 5).asked(Call.of("pulled", 5), 1);
        stillSeen(1, 0).asked(Call.of("pulled", 5), ALL_PULLS - 1);
        for (int k = 0; k <= 19; k++) {
            stillSeen(k, 0, k + 1, 5).asked(Call.of("pulled", 5), 1 << k);
            stillSeen(k + 1, 5).asked(Call.of("pulled", 5), (2 << k) - 1);
            stillSeen(k + 1, 0).asked(Call.of("pulled", 5), ALL_PULLS - ((2 << k) - 1));
        }
        stillSeen(20, 0).asked(Call.of("pulled", 5), 0);
        stillSeen(20, 5).asked(Call.of("pulled", 5), ALL_PULLS);
    }

    private static void pulledOfAllSeen() {
        fiveSeen(1, 0, 0, 0, 3, 3, 4, 4, 9, 11, 10, 12, 20, 22).asked(Call.of("pulled", 2), 16 + 32 + 64 + 128 + 256);
        fiveSeen(1, 0, 0, 0, 3, 3, 4, 4, 9, 11, 10, 12, 20, 20).asked(Call.of("pulled", 2), 0);
        fiveSeen(1, 0, 0, 2, 3, 3, 4, 4, 9, 11, 10, 12, 20, 22).asked(Call.of("pulled", 2), 0);
        fiveSeen(1, 7, 0, 7, 1, 10).asked(Call.of("pulled", 2), 1);
    }

    /** "another ship goes from PLACE p (-60 .. 60), by b (-3 .. 3) more each WATCH". */
    private static void meetOfTheLeastAndTheMost() {
        Twins still = stillSeen();
        for (int what = 0; what <= 1; what++) {
            for (int side = -1; side <= 1; side += 2) {
                still.asked(Call.of("meet", 60 * side, -3 * side, what), 20);
                still.asked(Call.of("meet", 60 * side, -side, what), 60);
                still.asked(Call.of("meet", 60 * side, 3 * side, what), NONE);
                still.asked(Call.of("meet", 60 * side, 0, what), NONE);
                still.asked(Call.of("meet", side, 0, what), NONE);
                still.refused(Call.of("meet", 61 * side, -side, what), BAD, Twins.BAD);
                still.refused(Call.of("meet", 60 * side, -4 * side, what), BAD, Twins.BAD);
                Twins beyond = fiveSeen(side, 61);
                beyond.refused(Call.of("meet", 61 * side, 0, what), BAD, Twins.BAD);
                beyond.asked(Call.of("meet", 60 * side, side, what), NONE);
                beyond.asked(Call.of("meet", 60 * side, 2 * side, what), 1);
            }
        }
        still.refused(Call.of("meet", 60, -1, 2), BAD, Twins.BAD);
        still.refused(Call.of("meet", 60, -1, -1), BAD, Twins.BAD);
    }

    /** "behind how many WATCHES (0 .. 60) both are in one PLACE first": she goes from w by 1, the other from -60 by 2. */
    private static void meetBehindSixty() {
        for (int side = -1; side <= 1; side += 2) {
            for (int what = 0; what <= 1; what++) {
                fiveSeen(side, 0).asked(Call.of("meet", -59 * side, 2 * side, what), 59);
                fiveSeen(side, 0).asked(Call.of("meet", -60 * side, 2 * side, what), 60);
                fiveSeen(side, 1).asked(Call.of("meet", -59 * side, 2 * side, what), 60);
                fiveSeen(side, 1).asked(Call.of("meet", -60 * side, 2 * side, what), NONE);
            }
        }
    }

    /** "(... 1 .. 60)": she goes from w by 1, the other from -60 by 3: it is no more behind when 2 m is 60 + w or more. */
    private static void crossBehindSixty() {
        int[] gone = {57, 58, 59, 60, 61};
        int[] cross = {59, 59, 60, 60, NONE};
        int[] meet = {NONE, 59, NONE, 60, NONE};
        for (int side = -1; side <= 1; side += 2) {
            for (int k = 0; k < gone.length; k++) {
                Twins five = fiveSeen(side, gone[k]);
                five.asked(Call.of("meet", -60 * side, 3 * side, 1), cross[k]);
                five.asked(Call.of("meet", -60 * side, 3 * side, 0), meet[k]);
            }
        }
    }

    /** "CROSS: ... (0: in one PLACE now". */
    private static void inOnePlaceNow() {
        for (int b = -3; b <= 3; b++) {
            for (int what = 0; what <= 1; what++) {
                stillSeen().asked(Call.of("meet", 0, b, what), 0);
                fiveSeen(1, 60).asked(Call.of("meet", 60, b, what), 0);
                fiveSeen(-1, 60).asked(Call.of("meet", -60, b, what), 0);
            }
        }
    }

    private static void crossWithoutMeeting() {
        // 0 and -1, 3 and 1: she is more and more above it.
        fiveSeen(3, 0).asked(Call.of("meet", -1, 2, 1), NONE);
        // 0 and 1, 3 and 3: alike behind one watch.
        fiveSeen(3, 0).asked(Call.of("meet", 1, 2, 1), 1);
        fiveSeen(3, 0).asked(Call.of("meet", 1, 2, 0), 1);
        // 0 and 2, 3 and 2: she is above it behind one watch.
        fiveSeen(3, 0).asked(Call.of("meet", 2, 0, 1), 1);
        fiveSeen(3, 0).asked(Call.of("meet", 2, 0, 0), NONE);
        // 0 and -1, 3 and 2, 6 and 5: as far as ever.
        fiveSeen(3, 0).asked(Call.of("meet", -1, 3, 1), NONE);
        // She goes 3 up and 3 down: 0 3 0 3 0 3 6 .. beside one that lies at 1.
        when("there and back", x -> Ships.five(x, 3, -3)).asked(Call.of("meet", 1, 0, 1), 1);
        when("there and back", x -> Ships.five(x, 3, -3)).asked(Call.of("meet", 1, 0, 0), NONE);
        when("there and back", x -> Ships.five(x, 3, -3)).asked(Call.of("meet", 6, 0, 0), 6);
    }

    private static void fraction(String when, SleepyHelm x, long above, long below) {
        check.due(when + ": part(0)", x.part(0), above);
        check.due(when + ": part(1)", x.part(1), below);
    }

    /** "by c of 10 (0 .. 10)": a cook who steers if he eats. */
    private static void oddsOfNothingAndAll() {
        int[][] fed = {{0, 1}, {1, 10}, {1, 5}, {3, 10}, {2, 5}, {1, 2}, {3, 5}, {7, 10}, {4, 5}, {9, 10}, {1, 1}};
        SleepyHelm x = new SleepyHelm();
        fraction("at first", x, 0, 1);
        x.hand(PLAIN, 20, 1);
        x.hand(COOK, 11, 1);
        for (int c = 0; c <= 10; c++) {
            check.due("odds(1, " + c + ")", x.odds(1, c), 1);
            fraction("by " + c + " of 10", x, fed[c][0], fed[c][1]);
            check.due("odds(0, " + c + ")", x.odds(0, c), 1);
            fraction("by " + (10 - c) + " of 10", x, fed[10 - c][0], fed[10 - c][1]);
        }
        x.odds(1, 3);
        for (int[] w : new int[][] {{1, -1}, {1, 11}, {-1, 3}, {2, 3}}) {
            check.due(Call.of("odds", w).toString(), x.odds(w[0], w[1]), BAD);
            fraction("refused, it stays", x, 3, 10);
        }
        SleepyHelm awake = new SleepyHelm();
        awake.hand(PLAIN, 0, 1);
        awake.hand(BOY, 40, 1);
        awake.odds(1, 5);
        fraction("nobody steers", awake, 0, 1);
        awake.hand(PLAIN, 1, 1);
        for (int c = 0; c <= 10; c++) {
            awake.odds(2, c);
            fraction("the only one who is sleepy", awake, 1, 1);
            awake.odds(c % 2, c);
            fraction("one who is not sleepy", awake, 0, 1);
        }
    }

    /** "lowest terms, below above 0": of two cooks of 11 beside one of 20. */
    private static void oddsInLowestTerms() {
        SleepyHelm x = new SleepyHelm();
        x.hand(PLAIN, 20, 1);
        x.hand(COOK, 11, 1);
        x.hand(COOK, 11, 1);
        // The first if he eats; the second if he eats and the first does not; else the plain one.
        int[][] second = {{0, 1}, {9, 100}, {4, 25}, {21, 100}, {6, 25}, {1, 4}, {6, 25}, {21, 100}, {4, 25}, {9, 100}, {0, 1}};
        int[][] plain = {{1, 1}, {81, 100}, {16, 25}, {49, 100}, {9, 25}, {1, 4}, {4, 25}, {9, 100}, {1, 25}, {1, 100}, {0, 1}};
        for (int c = 0; c <= 10; c++) {
            x.odds(2, c);
            fraction("the second, by " + c, x, second[c][0], second[c][1]);
            x.odds(0, c);
            fraction("the plain one, by " + c, x, plain[c][0], plain[c][1]);
        }
        x.feed(1);
        x.odds(0, 1);
        fraction("who is fed now is nothing to it", x, 81, 100);
    }

    /** The most there can be: six, apart, by 10 of 10 each. */
    private static void oddsOfSix() {
        SleepyHelm x = new SleepyHelm();
        for (int h = 0; h <= 5; h++) {
            x.hand(COOK, 9, 1);
        }
        x.odds(5, 1);
        fraction("the last alone eats", x, 59049, 1000000);
        x.odds(5, 9);
        fraction("the last alone eats, by 9", x, 9, 1000000);
        x.odds(0, 9);
        fraction("the first eats, or nobody", x, 900001, 1000000);
        x.odds(0, 0);
        fraction("nobody eats", x, 1, 1);
        x.odds(0, 10);
        fraction("all eat", x, 1, 1);
        x.odds(5, 10);
        fraction("all eat: not the last", x, 0, 1);
        x.odds(5, 5);
        fraction("the last alone eats, by 5", x, 1, 64);
    }

    /** THE FRACTION is all that ODDS change: with the same one again all is the same. */
    private static void oddsChangeTheFractionAlone() {
        when("full", x -> {
            Ships.full(x);
            x.odds(0, 5);
        }).asked(Call.of("odds", 0, 5), 1);
        when("sailing", x -> {
            Ships.sailing(x);
            x.odds(2, 10);
        }).asked(Call.of("odds", 2, 10), 1);
    }

    /** "VOYAGES by a SEED (0 .. 999999), n (0 .. 60) WATCHES". */
    private static void voyagesOfTheLeastAndTheMost() {
        for (int nods = -3; nods <= 3; nods += 6) {
            Twins five = fiveSeen(nods, 0);
            for (int seed : new int[] {0, 1, 999998, 999999}) {
                for (int n : new int[] {0, 1, 59, 60}) {
                    five.asked(Call.of("voyages", seed, n), n * nods);
                }
                five.refused(Call.of("voyages", seed, -1), -10000, Twins.BAD);
                five.refused(Call.of("voyages", seed, 61), -10000, Twins.BAD);
            }
            five.refused(Call.of("voyages", -1, 60), -10000, Twins.BAD);
            five.refused(Call.of("voyages", 1000000, 60), -10000, Twins.BAD);
        }
        stillSeen().asked(Call.of("voyages", 999999, 60), 0);
    }

    /** As a ship goes that is fed so, watch by watch; with one to six of the crew, one that is not there is nobody. */
    private static void voyagesAsTheyWouldGo() {
        int[] seeds = {0, 1, 2, 65535, 65536, 123456, 999998, 999999};
        for (int crew = 1; crew <= 6; crew++) {
            for (int seed : seeds) {
                SleepyHelm x = cooks(crew);
                SleepyHelm goes = cooks(crew);
                BigInteger number = BigInteger.valueOf(seed);
                for (int n = 0; n <= 60; n++) {
                    check.due(crew + " cooks: voyages(" + seed + ", " + n + ")", x.voyages(seed, n), goes.now(0));
                    number = number.multiply(BigInteger.valueOf(1103515245)).add(BigInteger.valueOf(12345))
                        .mod(BigInteger.valueOf(2147483648L));
                    int who = number.divide(BigInteger.valueOf(65536)).mod(BigInteger.valueOf(7)).intValue();
                    if (who < crew) {
                        goes.feed(who);
                    }
                    goes.watch();
                }
            }
        }
    }

    private static SleepyHelm cooks(int crew) {
        int[] nods = {1, -2, 3, -1, 2, -3};
        SleepyHelm x = new SleepyHelm();
        for (int h = 0; h < crew; h++) {
            x.hand(h % 2 == 0 ? COOK : TALKER, 20 + h % 3, nods[h]);
        }
        return x;
    }

    /** "who is FED alone in it": not who is fed now; and none of it if no watch goes by. */
    private static void voyagesOfNoWatches() {
        Twins fed = when("fed now", x -> {
            x.hand(PLAIN, 20, 3);
            x.hand(COOK, 19, -3);
            x.feed(1);
        });
        // From 1 on number 3 is fed, who is not there; from 0 on number 0.
        fed.asked(Call.of("voyages", 1, 0), 0);
        fed.asked(Call.of("voyages", 1, 1), 3);
        fed.asked(Call.of("voyages", 0, 1), 3);
        fed.asked(Call.of("then", 1, 0), -3);
    }
}
