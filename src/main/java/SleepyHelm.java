/** A ship on which the sleepiest of the crew must steer, and what can be told of her. */
public final class SleepyHelm {
    public static final int NONE = -1, BAD = -2, NO = -3, FULL = -4;

    private static final int CREW_LIMIT = 6;
    private static final int ROCK_LIMIT = 6;
    private static final int SEEN_LIMIT = 6;
    private static final int UNDO_LIMIT = 8;
    private static final int TEXT_LIMIT = 150;
    private static final int IMAGE_LIMIT = 2;
    private static final int KIND_COUNT = 6;
    private static final int TIRED_AT_FIRST_LIMIT = 40;
    private static final int TIRED_LIMIT = 99;
    private static final int REST_AT_THE_WHEEL = 4;
    private static final int NODS_LIMIT = 3;
    private static final int PLACE_LIMIT = 60;
    private static final int WATCHES_AHEAD = 60;
    private static final int WATCHES_SEEN = 20;
    private static final int WATCHES_OF_CAN_NOT = 8;
    private static final int WATCHES_OF_PEAS = 4;
    private static final int PULL_LIMIT = 9;
    private static final int SEED_LIMIT = 999999;
    private static final int ODDS_OF = 10;

    private static final int NOBODY_FED = 6;
    private static final int NOT_SO_MANY = -5;
    private static final int BAD_SMALL = -10;
    private static final int BAD_PLACE = -10000;
    private static final int FAULT_BASE = -10;

    private final Voyage voyage;
    private final Voyage draft;
    private final Voyage[] images;
    private final boolean[] imageKept;
    private final Helm trial;
    private final Course course;
    private final PeaSearch peaSearch;
    private final Text text;
    private int above;
    private int below;
    private int badCalls;
    private int noCalls;
    private int fullCalls;

    public SleepyHelm() {
        Plain[] kinds = new Plain[KIND_COUNT];
        kinds[0] = new Plain();
        kinds[1] = new Cold();
        kinds[2] = new Talker();
        kinds[3] = new Cook();
        kinds[4] = new Moonstruck();
        kinds[5] = new Boy();
        voyage = new Voyage(kinds);
        draft = new Voyage(kinds);
        images = new Voyage[IMAGE_LIMIT];
        for (int i = 0; i < IMAGE_LIMIT; i++) {
            images[i] = new Voyage(kinds);
        }
        imageKept = new boolean[IMAGE_LIMIT];
        trial = new Helm(kinds);
        course = new Course(kinds);
        peaSearch = new PeaSearch(kinds);
        text = new Text();
        above = 0;
        below = 1;
    }

    // ---- a ship

    public int ship() {
        int crew = voyage.helm.crew;
        voyage.begin();
        return crew;
    }

    public int rock(int place) {
        if (!isPlace(place)) {
            return refuseBad(BAD);
        }
        if (voyage.isRock(place)) {
            return refuseNo();
        }
        if (voyage.rocks >= ROCK_LIMIT) {
            return refuseFull();
        }
        voyage.addRock(place);
        return voyage.rocks;
    }

    public int hand(int kind, int tired, int nods) {
        if (!isWithin(kind, 0, KIND_COUNT - 1) || !isWithin(tired, 0, TIRED_AT_FIRST_LIMIT) || !isNods(nods)) {
            return refuseBad(BAD);
        }
        if (voyage.helm.crew >= CREW_LIMIT) {
            return refuseFull();
        }
        voyage.addHand(kind, tired, nods);
        return voyage.helm.crew - 1;
    }

    public int type(int c) {
        if (!isWithin(c, 0, 127)) {
            return refuseBad(BAD);
        }
        if (text.length >= TEXT_LIMIT) {
            return refuseFull();
        }
        text.append(c);
        return text.length;
    }

    public int clear() {
        int length = text.length;
        text.length = 0;
        return length;
    }

    public int read() {
        int items = text.parse(draft);
        if (text.fault != NONE) {
            return FAULT_BASE - text.fault;
        }
        voyage.take(draft);
        return items;
    }

    // ---- watches

    public int feed(int hand) {
        if (!isHand(hand)) {
            return refuseBad(BAD);
        }
        if (holds(voyage.helm.fed, hand)) {
            return refuseNo();
        }
        voyage.remember();
        voyage.helm.fed |= 1 << hand;
        return 1;
    }

    public int watch() {
        int who = voyage.helm.steerer(voyage.helm.fed);
        voyage.remember();
        voyage.helm.go(who);
        return who;
    }

    public int undo() {
        if (!voyage.goBack()) {
            return refuseNo();
        }
        return voyage.helm.watch;
    }

    public int of(int hand, int what) {
        if (!isHand(hand) || !isWithin(what, 0, 4)) {
            return refuseBad(BAD_SMALL);
        }
        Helm helm = voyage.helm;
        switch (what) {
            case 0:
                return helm.kind[hand];
            case 1:
                return helm.tired[hand];
            case 2:
                return helm.nods[hand];
            case 3:
                return holds(helm.fed, hand) ? 1 : 0;
            default:
                return helm.sleepiness(hand, holds(helm.fed, hand));
        }
    }

    public int now(int what) {
        Helm helm = voyage.helm;
        switch (what) {
            case 0:
                return helm.place;
            case 1:
                return voyage.isRock(helm.place) ? 1 : 0;
            case 2:
                return helm.steerer(helm.fed);
            default:
                return refuseBad(BAD_PLACE);
        }
    }

    // ---- what comes

    public int then(int m, int what) {
        if (!isWithin(m, 0, WATCHES_AHEAD) || !isWithin(what, 0, 1)) {
            return refuseBad(BAD_PLACE);
        }
        course.run(voyage.helm, m);
        return what == 0 ? course.places[m] : course.steerers[m];
    }

    public int strikes() {
        course.run(voyage.helm, WATCHES_AHEAD);
        for (int m = 1; m <= WATCHES_AHEAD; m++) {
            if (voyage.isRock(course.places[m])) {
                return m;
            }
        }
        return NONE;
    }

    public int peas(int p, int n, int i) {
        if (!isPlace(p) || !isWithin(n, 1, WATCHES_OF_PEAS) || i < NONE) {
            return refuseBad(BAD_SMALL);
        }
        if (!peaSearch.seek(voyage.helm, p, n)) {
            return NONE;
        }
        if (i == NONE) {
            return peaSearch.fewest;
        }
        return i < n ? peaSearch.found[i] : NOT_SO_MANY;
    }

    public int canNot(int hand) {
        if (!isHand(hand)) {
            return refuseBad(BAD);
        }
        trial.take(voyage.helm);
        int bits = 0;
        for (int m = 0; m < WATCHES_OF_CAN_NOT; m++) {
            if (!trial.canSteer(hand)) {
                bits |= 1 << m;
            }
            trial.go(trial.steerer(trial.fed));
        }
        return bits;
    }

    public int eat(int a, int b) {
        if (!isHand(a) || !isHand(b) || a == b) {
            return refuseBad(BAD);
        }
        int bits = 0;
        for (int pair = 0; pair < 4; pair++) {
            if (voyage.helm.pairRests(a, b, pair)) {
                bits |= 1 << pair;
            }
        }
        return bits;
    }

    // ---- where she was

    public int seen(int m, int p) {
        if (!isWithin(m, 0, WATCHES_SEEN) || !isPlace(p)) {
            return refuseBad(BAD);
        }
        if (voyage.sights >= SEEN_LIMIT) {
            return refuseFull();
        }
        voyage.addSight(m, p);
        return voyage.sights;
    }

    public int forget() {
        int sights = voyage.sights;
        voyage.sights = 0;
        return sights;
    }

    public int nod(int hand) {
        if (!isHand(hand)) {
            return refuseBad(BAD);
        }
        course.run(voyage.helm, WATCHES_SEEN);
        return fittingNods(hand);
    }

    public int is(int hand) {
        if (!isHand(hand)) {
            return refuseBad(BAD);
        }
        int bits = 0;
        for (int kind = 0; kind < KIND_COUNT; kind++) {
            trial.take(voyage.helm);
            trial.kind[hand] = kind;
            course.run(trial, WATCHES_SEEN);
            if (fitsPulled(0, 0)) {
                bits |= 1 << kind;
            }
        }
        return bits;
    }

    public int look(int hand) {
        if (!isHand(hand)) {
            return refuseBad(BAD);
        }
        course.run(voyage.helm, WATCHES_SEEN);
        int ways = Integer.bitCount(fittingNods(hand));
        if (ways == 0) {
            return NONE;
        }
        int best = 0;
        int fewest = ways;
        for (int m = 1; m <= WATCHES_SEEN; m++) {
            // Until this one has steered all ways to nod bring her to one place, then each to its own.
            int alike = course.timesSteered(hand, m) > 0 ? 1 : ways;
            if (alike < fewest) {
                fewest = alike;
                best = m;
            }
        }
        return best;
    }

    public int pulled(int b) {
        if (!isWithin(b, -PULL_LIMIT, PULL_LIMIT)) {
            return refuseBad(BAD);
        }
        course.run(voyage.helm, WATCHES_SEEN);
        int bits = 0;
        for (int k = 0; k < WATCHES_SEEN; k++) {
            if (fitsPulled(k, b)) {
                bits |= 1 << k;
            }
        }
        return bits;
    }

    public int meet(int p, int b, int what) {
        if (!isPlace(p) || !isNods(b) || !isWithin(what, 0, 1)) {
            return refuseBad(BAD);
        }
        course.run(voyage.helm, WATCHES_AHEAD);
        int side = Integer.compare(course.places[0], p);
        for (int m = 0; m <= WATCHES_AHEAD; m++) {
            int sideThen = Integer.compare(course.places[m], p + b * m);
            if (sideThen == 0 || (what == 1 && sideThen != side)) {
                return m;
            }
        }
        return NONE;
    }

    public int odds(int hand, int c) {
        if (!isHand(hand) || !isWithin(c, 0, ODDS_OF)) {
            return refuseBad(BAD);
        }
        int all = 1;
        for (int h = 0; h < voyage.helm.crew; h++) {
            all *= ODDS_OF;
        }
        setFraction(voyage.helm.chances(hand, c), all);
        return 1;
    }

    public int voyages(int seed, int n) {
        if (!isWithin(seed, 0, SEED_LIMIT) || !isWithin(n, 0, WATCHES_AHEAD)) {
            return refuseBad(BAD_PLACE);
        }
        trial.take(voyage.helm);
        long x = seed;
        for (int m = 0; m < n; m++) {
            x = (x * 1103515245L + 12345L) % 2147483648L;
            int fed = (int) (x / 65536L % 7L);
            // One that is not there is left out by the steerer's own count of the crew.
            trial.go(trial.steerer(1 << fed));
        }
        return trial.place;
    }

    // ---- what there is

    public long part(int what) {
        switch (what) {
            case 0:
                return above;
            case 1:
                return below;
            default:
                return refuseBad(BAD);
        }
    }

    public int image(int i) {
        if (!isWithin(i, 0, IMAGE_LIMIT - 1)) {
            return refuseBad(BAD);
        }
        images[i].take(voyage);
        imageKept[i] = true;
        return 1;
    }

    public int from(int i) {
        if (!isWithin(i, 0, IMAGE_LIMIT - 1)) {
            return refuseBad(BAD);
        }
        if (!imageKept[i]) {
            return refuseNo();
        }
        voyage.take(images[i]);
        return 1;
    }

    public int status(int what) {
        switch (what) {
            case 0:
                return badCalls;
            case 1:
                return noCalls;
            case 2:
                return fullCalls;
            default:
                return refuseBad(NONE);
        }
    }

    public int count(int what) {
        return isWithin(what, 0, 6) ? amount(what) : refuseBad(BAD);
    }

    public long digest() {
        long h = 1181;
        for (int what = 0; what <= 6; what++) {
            h = 31 * h + amount(what);
        }
        h = voyage.digestOnto(h);
        h = 31 * h + above;
        return 31 * h + below;
    }

    private int amount(int what) {
        switch (what) {
            case 0:
                return voyage.helm.crew;
            case 1:
                return voyage.rocks;
            case 2:
                return voyage.helm.watch;
            case 3:
                return Integer.bitCount(voyage.helm.fed);
            case 4:
                return voyage.sights;
            case 5:
                return voyage.undoable;
            default:
                return text.length;
        }
    }

    private int refuseBad(int answer) {
        badCalls++;
        return answer;
    }

    private int refuseNo() {
        noCalls++;
        return NO;
    }

    private int refuseFull() {
        fullCalls++;
        return FULL;
    }

    private boolean isHand(int hand) {
        return isWithin(hand, 0, voyage.helm.crew - 1);
    }

    /** Bits of the NODS by which all that was SEEN is so, on the course run last. */
    private int fittingNods(int hand) {
        int bits = 0;
        for (int nods = -NODS_LIMIT; nods <= NODS_LIMIT; nods++) {
            if (fitsNods(hand, nods - voyage.helm.nods[hand])) {
                bits |= 1 << (nods + NODS_LIMIT);
            }
        }
        return bits;
    }

    /** Who steers does not hang on how anybody nods, so one course serves all NODS. */
    private boolean fitsNods(int hand, int more) {
        for (int s = 0; s < voyage.sights; s++) {
            int m = voyage.sightWatch[s];
            if (course.places[m] + more * course.timesSteered(hand, m) != voyage.sightPlace[s]) {
                return false;
            }
        }
        return true;
    }

    /** Whether all SEEN is so on the course run last, pulled by b behind the k-th watch. */
    private boolean fitsPulled(int k, int b) {
        for (int s = 0; s < voyage.sights; s++) {
            int m = voyage.sightWatch[s];
            int place = course.places[m] + (m > k ? b : 0);
            if (place != voyage.sightPlace[s]) {
                return false;
            }
        }
        return true;
    }

    private void setFraction(int up, int down) {
        int divisor = greatestDivisor(up, down);
        if (divisor > 0) {
            above = up / divisor;
            below = down / divisor;
        }
    }

    private static int greatestDivisor(int a, int b) {
        int rest = a;
        int divisor = b;
        // The counter stands far above what numbers of 32 bits need.
        for (int turn = 0; turn < 100 && rest != 0; turn++) {
            int left = divisor % rest;
            divisor = rest;
            rest = left;
        }
        return divisor;
    }

    private static boolean isWithin(int n, int least, int most) {
        return n >= least && n <= most;
    }

    private static boolean isPlace(int p) {
        return isWithin(p, -PLACE_LIMIT, PLACE_LIMIT);
    }

    private static boolean isNods(int n) {
        return isWithin(n, -NODS_LIMIT, NODS_LIMIT);
    }

    private static boolean holds(int set, int hand) {
        return (set >> hand & 1) == 1;
    }

    /** The kind that all others are under. */
    private static class Plain {
        int sleepy(int watch, boolean fed, int tired) {
            return tired;
        }

        /** How much more tired one is behind a watch in which one does not steer. */
        int tires() {
            return 1;
        }
    }

    private static class Cold extends Plain {
        int sleepy(int watch, boolean fed, int tired) {
            int plain = super.sleepy(watch, fed, tired);
            return watch % 4 == 0 ? Math.max(0, plain - 3) : plain;
        }
    }

    private static class Talker extends Plain {
        int sleepy(int watch, boolean fed, int tired) {
            int plain = super.sleepy(watch, fed, tired);
            return fed ? plain : plain / 2;
        }

        int tires() {
            return super.tires() + 1;
        }
    }

    private static final class Cook extends Plain {
        int sleepy(int watch, boolean fed, int tired) {
            int plain = super.sleepy(watch, fed, tired);
            return fed ? 2 * plain : plain;
        }
    }

    private static final class Moonstruck extends Cold {
        int sleepy(int watch, boolean fed, int tired) {
            int cold = super.sleepy(watch, fed, tired);
            return watch % 7 == 3 ? cold + 5 : cold;
        }
    }

    private static final class Boy extends Talker {
        int sleepy(int watch, boolean fed, int tired) {
            return 0;
        }

        int tires() {
            return super.tires() - 2;
        }
    }

    /** The crew and where they are: all that decides how she goes. */
    private static final class Helm {
        private final Plain[] kinds;
        private final int[] kind = new int[CREW_LIMIT];
        private final int[] tired = new int[CREW_LIMIT];
        private final int[] nods = new int[CREW_LIMIT];
        private int crew;
        private int place;
        private int watch;
        private int fed;

        Helm(Plain[] kinds) {
            this.kinds = kinds;
        }

        void begin() {
            crew = 0;
            place = 0;
            watch = 0;
            fed = 0;
        }

        void take(Helm other) {
            System.arraycopy(other.kind, 0, kind, 0, CREW_LIMIT);
            System.arraycopy(other.tired, 0, tired, 0, CREW_LIMIT);
            System.arraycopy(other.nods, 0, nods, 0, CREW_LIMIT);
            crew = other.crew;
            place = other.place;
            watch = other.watch;
            fed = other.fed;
        }

        int sleepiness(int h, boolean isFed) {
            return kinds[kind[h]].sleepy(watch, isFed, tired[h]);
        }

        /** Who steers in this watch if just these are fed. */
        int steerer(int fedSet) {
            int who = NONE;
            int most = 0;
            for (int h = 0; h < crew; h++) {
                int sleepy = sleepiness(h, holds(fedSet, h));
                if (sleepy > most) {
                    most = sleepy;
                    who = h;
                }
            }
            return who;
        }

        /** A watch goes by in which this one steers. */
        void go(int who) {
            for (int h = 0; h < crew; h++) {
                if (h == who) {
                    place += nods[h];
                    tired[h] = Math.max(0, tired[h] - REST_AT_THE_WHEEL);
                } else {
                    tired[h] = Math.min(TIRED_LIMIT, tired[h] + kinds[kind[h]].tires());
                }
            }
            fed = 0;
            watch++;
        }

        /**
         * Whether one steers by some set of all fed in this watch. Peas touch nobody's sleep but
         * the eater's, so one case is enough: this one at his sleepiest, each other at his least.
         */
        boolean canSteer(int hand) {
            int sleepy = Math.max(sleepiness(hand, true), sleepiness(hand, false));
            boolean can = sleepy > 0;
            for (int h = 0; h < crew; h++) {
                int other = Math.min(sleepiness(h, true), sleepiness(h, false));
                can = can && (h == hand || staysBehind(h, other, hand, sleepy));
            }
            return can;
        }

        /** Of 10 for each of the crew: in how many cases one steers, each fed in c of 10. */
        int chances(int hand, int c) {
            return c * chancesOfOthers(hand, sleepiness(hand, true), c)
                + (ODDS_OF - c) * chancesOfOthers(hand, sleepiness(hand, false), c);
        }

        private int chancesOfOthers(int hand, int sleepy, int c) {
            if (sleepy <= 0) {
                return 0;
            }
            int cases = 1;
            for (int h = 0; h < crew; h++) {
                if (h != hand) {
                    int byFed = staysBehind(h, sleepiness(h, true), hand, sleepy) ? c : 0;
                    int byUnfed = staysBehind(h, sleepiness(h, false), hand, sleepy) ? ODDS_OF - c : 0;
                    cases *= byFed + byUnfed;
                }
            }
            return cases;
        }

        private static boolean staysBehind(int other, int otherSleepy, int hand, int sleepy) {
            return other < hand ? otherSleepy < sleepy : otherSleepy <= sleepy;
        }

        /** Whether neither of two gets more by doing otherwise (bit 0 of the pair: a eats, bit 1: b). */
        boolean pairRests(int a, int b, int pair) {
            int steers = steererByPair(a, b, pair);
            boolean aWouldChange = steers == a && steererByPair(a, b, pair ^ 1) != a;
            boolean bWouldChange = steers == b && steererByPair(a, b, pair ^ 2) != b;
            return !aWouldChange && !bWouldChange;
        }

        private int steererByPair(int a, int b, int pair) {
            int others = fed & ~(1 << a) & ~(1 << b);
            return steerer(others | (pair & 1) << a | (pair >> 1 & 1) << b);
        }
    }

    /** All that an image keeps: her helm, the rocks, what was seen, what may be undone. */
    private static final class Voyage {
        private final Helm helm;
        private final int[] rock = new int[ROCK_LIMIT];
        private final int[] sightWatch = new int[SEEN_LIMIT];
        private final int[] sightPlace = new int[SEEN_LIMIT];
        private final Helm[] past = new Helm[UNDO_LIMIT];
        private int rocks;
        private int sights;
        private int undoable;

        Voyage(Plain[] kinds) {
            helm = new Helm(kinds);
            for (int u = 0; u < UNDO_LIMIT; u++) {
                past[u] = new Helm(kinds);
            }
        }

        void begin() {
            helm.begin();
            rocks = 0;
            sights = 0;
            undoable = 0;
        }

        void take(Voyage other) {
            helm.take(other.helm);
            System.arraycopy(other.rock, 0, rock, 0, ROCK_LIMIT);
            System.arraycopy(other.sightWatch, 0, sightWatch, 0, SEEN_LIMIT);
            System.arraycopy(other.sightPlace, 0, sightPlace, 0, SEEN_LIMIT);
            for (int u = 0; u < other.undoable; u++) {
                past[u].take(other.past[u]);
            }
            rocks = other.rocks;
            sights = other.sights;
            undoable = other.undoable;
        }

        boolean isRock(int place) {
            for (int r = 0; r < rocks; r++) {
                if (rock[r] == place) {
                    return true;
                }
            }
            return false;
        }

        void addRock(int place) {
            if (rocks < ROCK_LIMIT) {
                rock[rocks] = place;
                rocks++;
            }
        }

        void addHand(int kind, int tired, int nods) {
            int h = helm.crew;
            if (h < CREW_LIMIT) {
                helm.kind[h] = kind;
                helm.tired[h] = tired;
                helm.nods[h] = nods;
                helm.crew++;
                undoable = 0;
            }
        }

        void addSight(int m, int p) {
            if (sights < SEEN_LIMIT) {
                sightWatch[sights] = m;
                sightPlace[sights] = p;
                sights++;
            }
        }

        /** Keeps the helm for undo; the oldest one kept gives way when there is no room. */
        void remember() {
            if (undoable == UNDO_LIMIT) {
                Helm oldest = past[0];
                for (int u = 1; u < UNDO_LIMIT; u++) {
                    past[u - 1] = past[u];
                }
                past[UNDO_LIMIT - 1] = oldest;
                undoable--;
            }
            past[undoable].take(helm);
            undoable++;
        }

        boolean goBack() {
            if (undoable == 0) {
                return false;
            }
            undoable--;
            helm.take(past[undoable]);
            return true;
        }

        long digestOnto(long start) {
            long h = 31 * start + helm.place;
            for (int c = 0; c < helm.crew; c++) {
                h = 31 * h + helm.kind[c];
                h = 31 * h + helm.tired[c];
                h = 31 * h + helm.nods[c];
                h = 31 * h + (holds(helm.fed, c) ? 1 : 0);
            }
            for (int r = 0; r < rocks; r++) {
                h = 31 * h + rock[r];
            }
            for (int s = 0; s < sights; s++) {
                h = 31 * h + sightWatch[s];
                h = 31 * h + sightPlace[s];
            }
            return h;
        }
    }

    /** How she goes on if nobody is fed any more: a row for each number of watches behind which. */
    private static final class Course {
        private final Helm going;
        private final int[] places = new int[WATCHES_AHEAD + 1];
        private final int[] steerers = new int[WATCHES_AHEAD + 1];

        Course(Plain[] kinds) {
            going = new Helm(kinds);
        }

        /** Fills the rows up to so many watches. */
        void run(Helm from, int watches) {
            going.take(from);
            for (int m = 0; m <= watches && m <= WATCHES_AHEAD; m++) {
                places[m] = going.place;
                steerers[m] = going.steerer(going.fed);
                going.go(steerers[m]);
            }
        }

        /** In how many of the first watches, so many, one steers. */
        int timesSteered(int hand, int watches) {
            int times = 0;
            for (int m = 0; m < watches && m <= WATCHES_AHEAD; m++) {
                if (steerers[m] == hand) {
                    times++;
                }
            }
            return times;
        }
    }

    /** Looks for the fewest peas that bring her to a place. */
    private static final class PeaSearch {
        private final Helm[] behind = new Helm[WATCHES_OF_PEAS + 1];
        private final int[] tried = new int[WATCHES_OF_PEAS];
        private final int[] found = new int[WATCHES_OF_PEAS];
        private int goal;
        private int watches;
        private int fewest;

        PeaSearch(Plain[] kinds) {
            for (int d = 0; d <= WATCHES_OF_PEAS; d++) {
                behind[d] = new Helm(kinds);
            }
        }

        boolean seek(Helm from, int place, int n) {
            goal = place;
            watches = Math.min(n, WATCHES_OF_PEAS);
            fewest = watches + 1;
            behind[0].take(from);
            serve(0, 0);
            return fewest <= watches;
        }

        /** Ways come in their order, so the first of the fewest is the one that stays. */
        private void serve(int depth, int served) {
            Helm at = behind[depth];
            if (served >= fewest || Math.abs(goal - at.place) > NODS_LIMIT * (watches - depth)) {
                return;
            }
            if (depth >= watches) {
                fewest = served;
                System.arraycopy(tried, 0, found, 0, WATCHES_OF_PEAS);
                return;
            }
            int unserved = at.steerer(at.fed);
            tried[depth] = NOBODY_FED;
            goOn(depth, unserved, served);
            for (int h = 0; h < at.crew; h++) {
                int who = at.steerer(at.fed | 1 << h);
                // Peas that do not change who steers change nothing behind the watch: never of the fewest.
                if (who != unserved) {
                    tried[depth] = h;
                    goOn(depth, who, served + 1);
                }
            }
        }

        private void goOn(int depth, int who, int served) {
            behind[depth + 1].take(behind[depth]);
            behind[depth + 1].go(who);
            serve(depth + 1, served);
        }
    }

    /** The text by which a ship is told, and its reading, a token at a time. */
    private static final class Text {
        private static final int END = 0, WORD = 1, NUMBER = 2, STOP = 3, OTHER = 4;

        private final int[] bytes = new int[TEXT_LIMIT];
        private int length;
        /** Where the fault is that the last reading found, or NONE. */
        private int fault;
        private int token;
        private int tokenStart;
        private int tokenEnd;
        private int number;

        void append(int c) {
            if (length < TEXT_LIMIT) {
                bytes[length] = c;
                length++;
            }
        }

        /** How many items are read into the ship; of no worth if there is a fault. */
        int parse(Voyage into) {
            into.begin();
            fault = NONE;
            tokenEnd = 0;
            advance();
            if (isWord("ship")) {
                advance();
                expectStop();
            } else {
                fail();
            }
            int items = 1;
            while (items < TEXT_LIMIT && fault == NONE && token != END) {
                parseItem(into);
                expectStop();
                items++;
            }
            return items;
        }

        private void parseItem(Voyage into) {
            if (isWord("rock")) {
                parseRock(into, 1);
            } else if (isWord("reef")) {
                parseRock(into, -1);
            } else if (isWord("hand")) {
                parseHand(into, 1);
            } else if (isWord("lean")) {
                parseHand(into, -1);
            } else {
                fail();
            }
        }

        private void parseRock(Voyage into, int sign) {
            if (into.rocks >= ROCK_LIMIT) {
                fail();
                return;
            }
            advance();
            int place = sign * number;
            if (!isNumberUpTo(PLACE_LIMIT) || into.isRock(place)) {
                fail();
                return;
            }
            advance();
            into.addRock(place);
        }

        private void parseHand(Voyage into, int sign) {
            if (into.helm.crew >= CREW_LIMIT) {
                fail();
                return;
            }
            advance();
            int kind = takeNumberUpTo(KIND_COUNT - 1);
            int tired = takeNumberUpTo(TIRED_AT_FIRST_LIMIT);
            int nods = sign * takeNumberUpTo(NODS_LIMIT);
            if (fault == NONE) {
                into.addHand(kind, tired, nods);
            }
        }

        private int takeNumberUpTo(int most) {
            int value = number;
            if (isNumberUpTo(most)) {
                advance();
            } else {
                fail();
            }
            return value;
        }

        private void expectStop() {
            if (token == STOP) {
                advance();
            } else {
                fail();
            }
        }

        /** The first token that can not stand where it is stays the fault; at the end that is the length. */
        private void fail() {
            if (fault == NONE) {
                fault = tokenStart;
            }
        }

        private boolean isNumberUpTo(int most) {
            return token == NUMBER && number <= most;
        }

        private boolean isWord(String word) {
            if (token != WORD || tokenEnd - tokenStart != word.length()) {
                return false;
            }
            for (int i = 0; i < word.length(); i++) {
                if (bytes[tokenStart + i] != word.charAt(i)) {
                    return false;
                }
            }
            return true;
        }

        /** Goes on to the next token. */
        private void advance() {
            tokenStart = tokenEnd;
            while (tokenStart < length && bytes[tokenStart] == ' ') {
                tokenStart++;
            }
            tokenEnd = tokenStart;
            number = 0;
            if (tokenStart >= length) {
                token = END;
            } else if (isLetter(bytes[tokenStart])) {
                advanceOverWord();
            } else if (isFigure(bytes[tokenStart])) {
                advanceOverNumber();
            } else {
                token = bytes[tokenStart] == ';' ? STOP : OTHER;
                tokenEnd++;
            }
        }

        private void advanceOverWord() {
            token = WORD;
            while (tokenEnd < length && isLetter(bytes[tokenEnd])) {
                tokenEnd++;
            }
        }

        private void advanceOverNumber() {
            while (tokenEnd < length && isFigure(bytes[tokenEnd])) {
                number = number * 10 + (bytes[tokenEnd] - '0');
                tokenEnd++;
            }
            token = tokenEnd - tokenStart <= 2 ? NUMBER : OTHER;
        }

        private static boolean isLetter(int c) {
            return c >= 'a' && c <= 'z';
        }

        private static boolean isFigure(int c) {
            return c >= '0' && c <= '9';
        }
    }
}
