import java.util.function.Consumer;

/**
 * "Refused, changing nothing but STATUS, the first of: BAD -2 a number is not as told; NO -3 as told; FULL -4 (where
 * others are told they count as these)": each limit of each call, at it and one beyond it, and which reason comes first.
 */
public final class RefusalEdgeTest {
    private static final int NO = -3, FULL = -4;
    private static final int MIN = Integer.MIN_VALUE, MAX = Integer.MAX_VALUE;

    private static final Check check = new Check();

    public static void main(String[] args) {
        limitsOf("no crew", Ships::empty, 0);
        limitsOf("sailing", Ships::sailing, 3);
        limitsOf("in harbour", Ships::inHarbour, 5);
        limitsOf("full", Ships::full, 6);
        eatAlike();
        noAsTold();
        fullAsTold();
        badComesFirst();
        noComesAheadOfFull();
        refusedAgainAndAgain();
        check.end();
    }

    /** Each call that takes a number, with the answer that BAD is told by it, and the least and most of each number. */
    private static void limitsOf(String when, Consumer<SleepyHelm> setUp, int crew) {
        Twins twins = new Twins(check, when, setUp);
        int last = crew - 1;
        limits(twins, "rock", -2, -60, 60);
        limits(twins, "hand", -2, 0, 5, 0, 40, -3, 3);
        limits(twins, "type", -2, 0, 127);
        limits(twins, "feed", -2, 0, last);
        limits(twins, "of", -10, 0, last, 0, 4);
        limits(twins, "now", -10000, 0, 2);
        limits(twins, "then", -10000, 0, 60, 0, 1);
        limits(twins, "peas", -10, -60, 60, 1, 4, -1, MAX);
        limits(twins, "canNot", -2, 0, last);
        limits(twins, "eat", -2, 0, last, 0, last);
        limits(twins, "seen", -2, 0, 20, -60, 60);
        limits(twins, "nod", -2, 0, last);
        limits(twins, "is", -2, 0, last);
        limits(twins, "look", -2, 0, last);
        limits(twins, "pulled", -2, -9, 9);
        limits(twins, "meet", -2, -60, 60, -3, 3, 0, 1);
        limits(twins, "odds", -2, 0, last, 0, 10);
        limits(twins, "voyages", -10000, 0, 999999, 0, 60);
        limits(twins, "part", -2, 0, 1);
        limits(twins, "image", -2, 0, 1);
        limits(twins, "from", -2, 0, 1);
        limits(twins, "status", -1, 0, 2);
        limits(twins, "count", -2, 0, 6);
    }

    private static void limits(Twins twins, String name, int answer, int... leastAndMost) {
        int numbers = leastAndMost.length / 2;
        // Bit k of the corner: whether number k is the most that it may be, or the least.
        for (int corner = 0; corner < 1 << numbers; corner++) {
            int[] at = corner(leastAndMost, corner);
            if (isCorner(leastAndMost) && !(name.equals("eat") && at[0] == at[1])) {
                twins.notRefused(Call.of(name, at), Twins.BAD);
            }
            for (int k = 0; k < numbers; k++) {
                boolean isMost = (corner >> k & 1) == 1;
                int limit = leastAndMost[2 * k + (isMost ? 1 : 0)];
                if (limit != MAX) {
                    twins.refused(Call.of(name, with(at, k, isMost ? limit + 1 : limit - 1)), answer, Twins.BAD);
                    twins.refused(Call.of(name, with(at, k, isMost ? MAX : MIN)), answer, Twins.BAD);
                }
            }
        }
    }

    private static int[] corner(int[] leastAndMost, int corner) {
        int[] at = new int[leastAndMost.length / 2];
        for (int k = 0; k < at.length; k++) {
            at[k] = leastAndMost[2 * k + (corner >> k & 1)];
        }
        return at;
    }

    /** Where there is no crew there is no number of one. */
    private static boolean isCorner(int[] leastAndMost) {
        for (int k = 0; k < leastAndMost.length; k += 2) {
            if (leastAndMost[k] > leastAndMost[k + 1]) {
                return false;
            }
        }
        return true;
    }

    private static int[] with(int[] at, int k, int number) {
        int[] changed = at.clone();
        changed[k] = number;
        return changed;
    }

    /** "BAD: alike, too." */
    private static void eatAlike() {
        Twins full = new Twins(check, "full", Ships::full);
        for (int h = -1; h <= 6; h++) {
            full.refused(Call.of("eat", h, h), -2, Twins.BAD);
        }
        new Twins(check, "one of the crew", x -> x.hand(0, 9, 1)).refused(Call.of("eat", 0, 0), -2, Twins.BAD);
    }

    private static void noAsTold() {
        Twins sailing = new Twins(check, "sailing", Ships::sailing);
        Twins harbour = new Twins(check, "in harbour", Ships::inHarbour);
        sailing.refused(Call.of("rock", 3), NO, Twins.NO);
        sailing.refused(Call.of("rock", -60), NO, Twins.NO);
        sailing.notRefused(Call.of("rock", 60), Twins.NO);
        sailing.notRefused(Call.of("rock", 2), Twins.NO);
        sailing.refused(Call.of("feed", 0), NO, Twins.NO);
        sailing.notRefused(Call.of("feed", 1), Twins.NO);
        sailing.refused(Call.of("from", 1), NO, Twins.NO);
        sailing.notRefused(Call.of("from", 0), Twins.NO);
        sailing.notRefused(Call.of("undo"), Twins.NO);
        harbour.refused(Call.of("undo"), NO, Twins.NO);
        harbour.refused(Call.of("from", 0), NO, Twins.NO);
        harbour.notRefused(Call.of("from", 1), Twins.NO);
        new Twins(check, "new", Ships::empty).refused(Call.of("undo"), NO, Twins.NO);
    }

    private static void fullAsTold() {
        Twins full = new Twins(check, "full", Ships::full);
        full.refused(Call.of("rock", 60), FULL, Twins.FULL);
        full.refused(Call.of("rock", -60), FULL, Twins.FULL);
        full.refused(Call.of("hand", 5, 40, 3), FULL, Twins.FULL);
        full.refused(Call.of("hand", 0, 0, -3), FULL, Twins.FULL);
        full.refused(Call.of("type", 0), FULL, Twins.FULL);
        full.refused(Call.of("type", 127), FULL, Twins.FULL);
        full.refused(Call.of("seen", 0, -60), FULL, Twins.FULL);
        full.refused(Call.of("seen", 20, 60), FULL, Twins.FULL);
        Twins sailing = new Twins(check, "sailing", Ships::sailing);
        sailing.notRefused(Call.of("rock", 60), Twins.FULL);
        sailing.notRefused(Call.of("hand", 5, 40, 3), Twins.FULL);
        sailing.notRefused(Call.of("type", 127), Twins.FULL);
        sailing.notRefused(Call.of("seen", 20, 60), Twins.FULL);
        oneIsMissing();
    }

    /** Room for one more is no refusal; the one behind it is. */
    private static void oneIsMissing() {
        SleepyHelm x = new SleepyHelm();
        for (int k = 0; k < 5; k++) {
            x.rock(k);
            x.hand(0, k, 0);
            x.seen(k, k);
        }
        Ships.type(x, "s".repeat(149));
        check.due("the sixth: rock(5)", x.rock(5), 6);
        check.due("the sixth: hand(0, 5, 0)", x.hand(0, 5, 0), 5);
        check.due("the sixth: seen(5, 5)", x.seen(5, 5), 6);
        check.due("byte 150: type(115)", x.type('s'), 150);
        check.due("none was refused: status(2)", x.status(2), 0);
        check.due("a seventh: rock(6)", x.rock(6), FULL);
        check.due("a seventh: hand(0, 6, 0)", x.hand(0, 6, 0), FULL);
        check.due("a seventh: seen(6, 6)", x.seen(6, 6), FULL);
        check.due("byte 151: type(115)", x.type('s'), FULL);
        check.due("all four were: status(2)", x.status(2), 4);
    }

    private static void badComesFirst() {
        Twins full = new Twins(check, "full, BAD first", Ships::full);
        for (int place : new int[] {-61, 61}) {
            full.refused(Call.of("rock", place), -2, Twins.BAD);
        }
        for (int[] w : new int[][] {{-1, 0, 0}, {6, 0, 0}, {0, -1, 0}, {0, 41, 0}, {0, 0, -4}, {0, 0, 4}}) {
            full.refused(Call.of("hand", w), -2, Twins.BAD);
        }
        for (int c : new int[] {-1, 128}) {
            full.refused(Call.of("type", c), -2, Twins.BAD);
        }
        for (int[] w : new int[][] {{-1, 0}, {21, 0}, {0, -61}, {0, 61}}) {
            full.refused(Call.of("seen", w), -2, Twins.BAD);
        }
        Twins allFed = new Twins(check, "all fed, BAD first", RefusalEdgeTest::allFed);
        allFed.refused(Call.of("feed", 2), -2, Twins.BAD);
        allFed.refused(Call.of("feed", -1), -2, Twins.BAD);
        Twins noneKept = new Twins(check, "no image, BAD first", Ships::empty);
        noneKept.refused(Call.of("from", -1), -2, Twins.BAD);
        noneKept.refused(Call.of("from", 2), -2, Twins.BAD);
    }

    private static void allFed(SleepyHelm x) {
        x.hand(3, 9, 1);
        x.hand(3, 9, 1);
        x.feed(0);
        x.feed(1);
    }

    /** A ROCK that is there already is NO, be there room or not. */
    private static void noComesAheadOfFull() {
        Twins full = new Twins(check, "full, NO first", Ships::full);
        for (int place = -20; place <= 30; place += 10) {
            full.refused(Call.of("rock", place), NO, Twins.NO);
        }
    }

    /** Each refusal counts, and only once, in the column of its own reason. */
    private static void refusedAgainAndAgain() {
        SleepyHelm x = new SleepyHelm();
        Ships.full(x);
        int[] ahead = {x.status(0), x.status(1), x.status(2)};
        for (int k = 1; k <= 40; k++) {
            x.rock(61);
            x.rock(0);
            x.rock(1);
            check.due("status(0) behind " + k, x.status(0), ahead[0] + k);
            check.due("status(1) behind " + k, x.status(1), ahead[1] + k);
            check.due("status(2) behind " + k, x.status(2), ahead[2] + k);
        }
    }
}
