/** A test for each promise of the document, with answers worked out by hand from its words. */
public final class PromiseTest {
    private static final int NONE = -1, BAD = -2, NO = -3, FULL = -4;
    private static final int[] FAR = {Integer.MIN_VALUE, Integer.MIN_VALUE + 1, Integer.MAX_VALUE - 1, Integer.MAX_VALUE};
    private static final int PLAIN = 0, COLD = 1, TALKER = 2, COOK = 3, MOONSTRUCK = 4, BOY = 5;
    private static final int ALL_NODS = 127, ALL_KINDS = 63, ALL_PULLS = (1 << 20) - 1;

    private static final Check check = new Check();

    public static void main(String[] args) {
        constants();
        promise1NewObject();
        promise2Ship();
        promise3Rock();
        promise4Hand();
        promise5Type();
        promise6Clear();
        promise7ReadItems();
        promise7ReadFaults();
        promise7ReadToTheEnd();
        promise7ReadTakesThePlace();
        promise8Feed();
        promise9WatchByKinds();
        promise9WatchEdges();
        promise10Undo();
        promise11Of();
        promise12Now();
        promise13Then();
        promise14Strikes();
        promise15Peas();
        promise16CanNot();
        promise17Eat();
        promise18Seen();
        promise19Forget();
        promise20Nod();
        promise21Is();
        promise22Look();
        promise23Pulled();
        promise24Meet();
        promise25Odds();
        promise26Voyages();
        promise27Part();
        promise28And29Images();
        promise28And29ImagesHaveTheirOwn();
        promise30Status();
        promise31Count();
        promise32Digest();
        questionsChangeNothing();
        refusalsChangeNothing();
        check.end();
    }

    private static void due(String call, long got, long want) {
        check.due(call, got, want);
    }

    private static void statusIs(String when, SleepyHelm x, int bad, int no, int full) {
        due(when + ": status(0)", x.status(0), bad);
        due(when + ": status(1)", x.status(1), no);
        due(when + ": status(2)", x.status(2), full);
    }

    private static void tiredAre(String when, SleepyHelm x, int... tired) {
        for (int h = 0; h < tired.length; h++) {
            due(when + ": of(" + h + ", 1)", x.of(h, 1), tired[h]);
        }
    }

    private static void type(SleepyHelm x, String text) {
        x.clear();
        for (int k = 0; k < text.length(); k++) {
            x.type(text.charAt(k));
        }
    }

    private static SleepyHelm told(String text) {
        SleepyHelm x = new SleepyHelm();
        type(x, text);
        x.read();
        return x;
    }

    private static void readAnswers(String text, int want) {
        SleepyHelm x = new SleepyHelm();
        type(x, text);
        due("read() of \"" + text + "\"", x.read(), want);
        statusIs("read() of \"" + text + "\"", x, 0, 0, 0);
    }

    private static void faultAt(String text, int fault) {
        readAnswers(text, -10 - fault);
    }

    /** A plain one of 10 who nods 1, a cold one of 10 who nods -2: the plain one steers first, then the cold one. */
    private static SleepyHelm two() {
        SleepyHelm x = new SleepyHelm();
        x.hand(PLAIN, 10, 1);
        x.hand(COLD, 10, -2);
        return x;
    }

    private static void constants() {
        due("NONE", SleepyHelm.NONE, NONE);
        due("BAD", SleepyHelm.BAD, BAD);
        due("NO", SleepyHelm.NO, NO);
        due("FULL", SleepyHelm.FULL, FULL);
    }

    private static void promise1NewObject() {
        SleepyHelm x = new SleepyHelm();
        for (int what = 0; what <= 6; what++) {
            due("new: count(" + what + ")", x.count(what), 0);
        }
        due("new: now(0)", x.now(0), 0);
        due("new: now(1)", x.now(1), 0);
        due("new: now(2)", x.now(2), NONE);
        due("new: part(0)", x.part(0), 0);
        due("new: part(1)", x.part(1), 1);
        statusIs("new", x, 0, 0, 0);
        due("new: undo()", x.undo(), NO);
        due("new: from(0)", x.from(0), NO);
        due("new: from(1)", x.from(1), NO);
    }

    private static void promise2Ship() {
        SleepyHelm x = two();
        x.rock(4);
        x.rock(4);
        x.seen(1, 1);
        x.image(1);
        x.odds(0, 0);
        x.type('a');
        x.watch();
        x.feed(0);
        due("ship()", x.ship(), 2);
        for (int what = 0; what <= 5; what++) {
            due("behind ship(): count(" + what + ")", x.count(what), 0);
        }
        due("behind ship(): now(0)", x.now(0), 0);
        due("behind ship(): the text stays", x.count(6), 1);
        due("behind ship(): the fraction stays", x.part(0), 1);
        statusIs("behind ship()", x, 0, 1, 0);
        due("behind ship(): undo()", x.undo(), NO);
        due("behind ship(): hand(0, 1, 0) is not fed", x.hand(0, 1, 0), 0);
        due("behind ship(): of(0, 3)", x.of(0, 3), 0);
        due("behind ship(): from(1)", x.from(1), 1);
        due("behind ship(): the image stays", x.count(0), 2);
        due("ship() of the image", x.ship(), 2);
        due("ship() again", x.ship(), 0);
    }

    private static void promise3Rock() {
        SleepyHelm x = new SleepyHelm();
        due("rock(61)", x.rock(61), BAD);
        due("rock(-61)", x.rock(-61), BAD);
        for (int far : FAR) {
            due("rock(" + far + ")", x.rock(far), BAD);
        }
        due("rock(60)", x.rock(60), 1);
        due("rock(-60)", x.rock(-60), 2);
        due("rock(60) again", x.rock(60), NO);
        due("rock(0)", x.rock(0), 3);
        due("rock(1)", x.rock(1), 4);
        due("rock(2)", x.rock(2), 5);
        due("rock(3)", x.rock(3), 6);
        due("rock(4), a seventh", x.rock(4), FULL);
        due("rock(3): NO ahead of FULL", x.rock(3), NO);
        due("rock(61): BAD ahead of FULL", x.rock(61), BAD);
        due("count(1)", x.count(1), 6);
        statusIs("rock", x, 7, 2, 1);
    }

    private static void promise4Hand() {
        SleepyHelm x = new SleepyHelm();
        int[][] wrong = {{-1, 0, 0}, {6, 0, 0}, {0, -1, 0}, {0, 41, 0}, {0, 0, -4}, {0, 0, 4}};
        for (int[] w : wrong) {
            due("hand(" + w[0] + ", " + w[1] + ", " + w[2] + ")", x.hand(w[0], w[1], w[2]), BAD);
        }
        for (int far : FAR) {
            due("hand(" + far + ", 0, 0)", x.hand(far, 0, 0), BAD);
            due("hand(0, " + far + ", 0)", x.hand(0, far, 0), BAD);
            due("hand(0, 0, " + far + ")", x.hand(0, 0, far), BAD);
        }
        due("hand(0, 0, -3)", x.hand(0, 0, -3), 0);
        due("hand(5, 40, 3)", x.hand(5, 40, 3), 1);
        due("of(1, 0)", x.of(1, 0), 5);
        due("of(1, 1)", x.of(1, 1), 40);
        due("of(1, 2)", x.of(1, 2), 3);
        due("of(1, 3)", x.of(1, 3), 0);
        x.watch();
        due("a refused hand", x.hand(9, 9, 9), BAD);
        due("a refused hand leaves what may be undone", x.count(5), 1);
        due("hand(1, 1, 1)", x.hand(1, 1, 1), 2);
        due("behind one that comes none may be undone", x.count(5), 0);
        due("hand(2, 2, 2)", x.hand(2, 2, 2), 3);
        due("hand(3, 3, -1)", x.hand(3, 3, -1), 4);
        due("hand(4, 4, -2)", x.hand(4, 4, -2), 5);
        x.watch();
        due("hand(0, 0, 0), a seventh", x.hand(0, 0, 0), FULL);
        due("hand(6, 0, 0): BAD ahead of FULL", x.hand(6, 0, 0), BAD);
        due("count(5) behind a full ship", x.count(5), 1);
        statusIs("hand", x, 20, 0, 1);
    }

    private static void promise5Type() {
        SleepyHelm x = new SleepyHelm();
        due("type(-1)", x.type(-1), BAD);
        due("type(128)", x.type(128), BAD);
        for (int far : FAR) {
            due("type(" + far + ")", x.type(far), BAD);
        }
        due("type(0)", x.type(0), 1);
        due("type(127)", x.type(127), 2);
        for (int k = 3; k <= 150; k++) {
            due("type(32)", x.type(32), k);
        }
        due("type(32), byte 151", x.type(32), FULL);
        due("type(128): BAD ahead of FULL", x.type(128), BAD);
        due("count(6)", x.count(6), 150);
        statusIs("type", x, 7, 0, 1);
    }

    private static void promise6Clear() {
        SleepyHelm x = new SleepyHelm();
        due("clear() of none", x.clear(), 0);
        type(x, "ship;");
        due("clear()", x.clear(), 5);
        due("count(6)", x.count(6), 0);
        due("clear() again", x.clear(), 0);
        due("read() of the cleared text", x.read(), -10);
        type(x, "x");
        type(x, "ship;");
        due("read() of a text typed behind clear()", x.read(), 1);
    }

    private static void promise7ReadItems() {
        readAnswers("ship;", 1);
        readAnswers("  ship  ;  ", 1);
        readAnswers("ship;rock5;", 2);
        readAnswers("ship;rock 07;", 2);
        readAnswers("ship ; rock 60 ; reef 60 ;", 3);
        readAnswers("ship;hand 5 40 3;lean 0 0 0;", 3);
        readAnswers("ship;hand05 40 03;", 2);
        String crew = "hand 0 0 0;hand 0 0 0;hand 0 0 0;hand 0 0 0;hand 0 0 0;hand 0 0 0;";
        String rocks = "rock 1;rock 2;rock 3;rock 4;rock 5;rock 6;";
        readAnswers("ship;" + crew + rocks, 13);
        readAnswers("ship;" + rocks + crew + " ".repeat(37), 13);

        SleepyHelm x = told("ship;rock 7;reef 09;hand 3 12 2;lean 2 40 3;lean 1 5 0;");
        due("read: count(0)", x.count(0), 3);
        due("read: count(1)", x.count(1), 2);
        due("read: rock(7)", x.rock(7), NO);
        due("read: rock(-9)", x.rock(-9), NO);
        due("read: rock(9)", x.rock(9), 3);
        int[][] want = {{3, 12, 2, 0}, {2, 40, -3, 0}, {1, 5, 0, 0}};
        for (int h = 0; h < 3; h++) {
            for (int what = 0; what < 4; what++) {
                due("read: of(" + h + ", " + what + ")", x.of(h, what), want[h][what]);
            }
        }
    }

    private static void promise7ReadFaults() {
        faultAt("", 0);
        faultAt(" ", 1);
        faultAt("ship", 4);
        faultAt("ship ", 5);
        faultAt("shi", 0);
        faultAt("ships;", 0);
        faultAt("shiprock 1;", 0);
        faultAt(" rock 1;", 1);
        faultAt(";", 0);
        faultAt("5", 0);
        faultAt("ship,", 4);
        faultAt("ship rock 1;", 5);
        faultAt("ship 1;", 5);
        faultAt("ship;ship;", 5);
        faultAt("ship;;", 5);
        faultAt("ship;rock 5;;", 12);
        faultAt("ship;5;", 5);
        faultAt("ship;crew 1;", 5);
        faultAt("ship;Rock 1;", 5);
        faultAt("ship;\trock 1;", 5);
        faultAt("ship;{", 5);
        faultAt("ship;`", 5);
        faultAt("ship;rockz 1;", 5);
        faultAt("ship;arock 1;", 5);
        faultAt("chip;", 0);
        faultAt("ship;dock 1;", 5);
        faultAt("ship;beef 1;", 5);
        faultAt("ship;band 0 0 0;", 5);
        faultAt("ship;mean 0 0 0;", 5);
        faultAt("ship;rock", 9);
        faultAt("ship;rock;", 9);
        faultAt("ship;rock 5", 11);
        faultAt("ship;rock 5 ", 12);
        faultAt("ship;rock x;", 10);
        faultAt("ship;rock -5;", 10);
        faultAt("ship;rock 5 6;", 12);
        faultAt("ship;rock 5x;", 11);
        faultAt("ship;rock 5:", 11);
        faultAt("ship;rock 5/", 11);
        faultAt("ship;rock 61;", 10);
        faultAt("ship;reef 61;", 10);
        faultAt("ship;rock  007;", 11);
        faultAt("ship;rock 123456789012345678901234567890;", 10);
        faultAt("ship;rock 5;rock 05;", 17);
        faultAt("ship;rock 0;reef 0;", 17);
        faultAt("ship;hand", 9);
        faultAt("ship;hand 6 0 0;", 10);
        faultAt("ship;hand 5 41 0;", 12);
        faultAt("ship;hand 5 40 4;", 15);
        faultAt("ship;lean 5 40 4;", 15);
        faultAt("ship;hand 0 1;", 13);
        faultAt("ship;hand 0 1", 13);
        faultAt("ship;hand 0 1 2", 15);
        faultAt("ship;hand 0 1 2 3;", 16);
        faultAt("ship;hand 012;", 10);
        faultAt("ship;hand 9 99 9;", 10);
        faultAt("ship;rock 1;rock 2;rock 3;reef 1;reef 2;reef 3;rock", 47);
        faultAt("ship;rock 1;rock 2;rock 3;reef 1;reef 2;reef 3; reef 99;", 48);
        faultAt("ship;hand 0 0 0;hand 0 0 0;hand 0 0 0;lean 0 0 0;lean 0 0 0;lean 0 0 0;lean 9", 71);
    }

    /** Bytes of an earlier text, and the end of the room for it, are nothing to the reading. */
    private static void promise7ReadToTheEnd() {
        SleepyHelm x = new SleepyHelm();
        type(x, "shipx");
        type(x, "ship");
        due("read() of ship", x.read(), -14);
        type(x, "ship;rock 55;");
        type(x, "ship;rock 5");
        due("read() of ship;rock 5", x.read(), -21);
        type(x, "ship;" + " ".repeat(140) + ";");
        type(x, "ship;" + " ".repeat(140));
        due("read() of ship; and blanks", x.read(), 1);
        faultAt("ship;" + " ".repeat(141) + "rock", 150);
        faultAt("ship;" + " ".repeat(139) + "rock 5", 150);
        faultAt("a".repeat(150), 0);
        faultAt("7".repeat(150), 0);
        faultAt(" ".repeat(150), 150);
    }

    private static void promise7ReadTakesThePlace() {
        SleepyHelm x = two();
        x.rock(4);
        x.seen(1, 1);
        x.odds(0, 0);
        x.image(0);
        x.watch();
        x.feed(1);
        type(x, "ship;rock 4;rock 4;");
        long before = x.digest();
        due("read() of a fault", x.read(), -27);
        due("read() of a fault: all stays", x.digest(), before);
        statusIs("read() of a fault", x, 0, 0, 0);
        type(x, "ship;hand 0 1 1;");
        due("read()", x.read(), 2);
        due("read: place", x.now(0), 0);
        int[] counts = {1, 0, 0, 0, 0, 0, 16};
        for (int what = 0; what <= 6; what++) {
            due("read: count(" + what + ")", x.count(what), counts[what]);
        }
        due("read: the fraction stays", x.part(0), 1);
        due("read: undo()", x.undo(), NO);
        due("read: the image stays", x.from(0), 1);
        due("read: count(0) of the image", x.count(0), 2);
        due("read() again", x.read(), 2);
    }

    private static void promise8Feed() {
        SleepyHelm x = new SleepyHelm();
        due("feed(0) of no crew", x.feed(0), BAD);
        x.hand(COOK, 5, 1);
        x.hand(TALKER, 5, 1);
        due("feed(-1)", x.feed(-1), BAD);
        due("feed(2)", x.feed(2), BAD);
        for (int far : FAR) {
            due("feed(" + far + ")", x.feed(far), BAD);
        }
        due("feed(1)", x.feed(1), 1);
        due("feed(1) again", x.feed(1), NO);
        due("of(1, 3)", x.of(1, 3), 1);
        due("of(0, 3)", x.of(0, 3), 0);
        due("count(3)", x.count(3), 1);
        due("count(5)", x.count(5), 1);
        due("feed(0)", x.feed(0), 1);
        due("count(3)", x.count(3), 2);
        x.watch();
        due("behind a watch nobody is fed: count(3)", x.count(3), 0);
        due("feed(1) behind a watch", x.feed(1), 1);
        statusIs("feed", x, 7, 1, 0);
    }

    private static void promise9WatchByKinds() {
        SleepyHelm x = new SleepyHelm();
        int[] nods = {1, 2, 3, -1, -2, -3};
        for (int kind = 0; kind <= 5; kind++) {
            x.hand(kind, 10, nods[kind]);
        }
        int[] steers = {PLAIN, COLD, COOK, MOONSTRUCK, PLAIN};
        int[] places = {1, 3, 2, 0, 1};
        int[][] tired = {{6, 11, 12, 11, 11, 10}, {7, 7, 14, 12, 12, 10}, {8, 8, 16, 8, 13, 10}, {9, 9, 18, 9, 9, 10},
            {5, 10, 20, 10, 10, 10}};
        for (int w = 0; w < steers.length; w++) {
            due("watch() " + w, x.watch(), steers[w]);
            due("place behind watch " + w, x.now(0), places[w]);
            due("count(2) behind watch " + w, x.count(2), w + 1);
            tiredAre("behind watch " + w, x, tired[w]);
        }
    }

    private static void promise9WatchEdges() {
        SleepyHelm x = new SleepyHelm();
        due("watch() of no crew", x.watch(), NONE);
        due("count(2)", x.count(2), 1);
        x.ship();
        x.hand(PLAIN, 0, 3);
        x.hand(BOY, 40, 3);
        x.hand(COLD, 3, 3);
        due("watch(): nobody sleepy above 0", x.watch(), NONE);
        due("place", x.now(0), 0);
        tiredAre("nobody steers", x, 1, 40, 4);
        due("watch()", x.watch(), 2);
        tiredAre("behind it", x, 2, 40, 0);
        due("watch()", x.watch(), 0);
        tiredAre("4 less, 0 at least", x, 0, 40, 1);
        due("place", x.now(0), 6);

        SleepyHelm like = new SleepyHelm();
        like.hand(TALKER, 15, 1);
        like.hand(PLAIN, 7, 2);
        due("watch(): of like ones the first", like.watch(), 0);

        SleepyHelm talkers = new SleepyHelm();
        for (int h = 0; h < 6; h++) {
            talkers.hand(TALKER, 40, 0);
        }
        for (int w = 0; w < 150; w++) {
            talkers.watch();
        }
        int most = 0;
        for (int h = 0; h < 6; h++) {
            most = Math.max(most, talkers.of(h, 1));
        }
        due("the most tired is 99", most, 99);
    }

    private static void promise10Undo() {
        SleepyHelm x = two();
        due("undo() of nothing", x.undo(), NO);
        x.feed(0);
        x.watch();
        x.feed(1);
        due("undo() of peas", x.undo(), 1);
        due("of(1, 3)", x.of(1, 3), 0);
        due("undo() of a watch", x.undo(), 0);
        due("place", x.now(0), 0);
        tiredAre("behind undo()", x, 10, 10);
        due("fed as ahead of the watch", x.of(0, 3), 1);
        due("undo() of the first peas", x.undo(), 0);
        due("count(3)", x.count(3), 0);
        due("undo() of nothing more", x.undo(), NO);
        statusIs("undo", x, 0, 2, 0);
        for (int w = 0; w < 12; w++) {
            x.watch();
        }
        due("count(5) behind 12 watches", x.count(5), 8);
        x.rock(50);
        x.seen(1, 1);
        for (int w = 11; w >= 4; w--) {
            due("undo()", x.undo(), w);
            due("count(5)", x.count(5), w - 4);
        }
        due("undo() beyond 8", x.undo(), NO);
        due("rocks are not undone", x.count(1), 1);
        due("what was seen is not undone", x.count(4), 1);
        due("place as it was behind 4 watches", x.now(0), -2);
        tiredAre("behind all undo()", x, 4, 4);
    }

    private static void promise11Of() {
        SleepyHelm x = new SleepyHelm();
        due("of(0, 0) of no crew", x.of(0, 0), -10);
        int[] tired = {9, 2, 9, 9, 9, 40};
        for (int kind = 0; kind <= 5; kind++) {
            x.hand(kind, tired[kind], kind - 3);
        }
        int[] unfedSleepy = {9, 0, 4, 9, 6, 0};
        for (int h = 0; h <= 5; h++) {
            due("of(" + h + ", 0)", x.of(h, 0), h);
            due("of(" + h + ", 1)", x.of(h, 1), tired[h]);
            due("of(" + h + ", 2)", x.of(h, 2), h - 3);
            due("of(" + h + ", 3)", x.of(h, 3), 0);
            due("of(" + h + ", 4)", x.of(h, 4), unfedSleepy[h]);
            x.feed(h);
            due("fed: of(" + h + ", 3)", x.of(h, 3), 1);
        }
        int[] fedSleepy = {9, 0, 9, 18, 6, 0};
        for (int h = 0; h <= 5; h++) {
            due("fed: of(" + h + ", 4)", x.of(h, 4), fedSleepy[h]);
        }
        for (int[] w : new int[][] {{-1, 0}, {6, 0}, {0, -1}, {0, 5}}) {
            due("of(" + w[0] + ", " + w[1] + ")", x.of(w[0], w[1]), -10);
        }
        for (int far : FAR) {
            due("of(" + far + ", 0)", x.of(far, 0), -10);
            due("of(0, " + far + ")", x.of(0, far), -10);
        }
        statusIs("of", x, 13, 0, 0);
        sleepyByTheWatch();
    }

    /** A moonstruck one whom nobody relieves: 0, 1, steers, 1 and 5 more in watch 3. */
    private static void sleepyByTheWatch() {
        SleepyHelm x = new SleepyHelm();
        x.hand(BOY, 0, 0);
        x.hand(MOONSTRUCK, 0, 0);
        due("moonstruck of 0 in watch 0", x.of(1, 4), 0);
        x.watch();
        due("moonstruck of 1 in watch 1", x.of(1, 4), 1);
        x.watch();
        due("moonstruck of 0 in watch 2", x.of(1, 4), 0);
        x.watch();
        due("moonstruck of 1 in watch 3", x.of(1, 4), 6);
        for (int w = 3; w < 24; w++) {
            x.watch();
        }
        due("count(2)", x.count(2), 24);
        SleepyHelm cold = new SleepyHelm();
        cold.hand(PLAIN, 40, 0);
        cold.hand(COLD, 5, 0);
        int[] sleepy = {2, 6, 7, 8, 6, 10};
        for (int w = 0; w < sleepy.length; w++) {
            due("cold in watch " + w, cold.of(1, 4), sleepy[w]);
            cold.watch();
        }
        int tired = x.of(1, 1);
        due("cold and moonstruck in watch 24", x.of(1, 4), Math.max(0, tired - 3) + 5);
    }

    private static void promise12Now() {
        SleepyHelm x = two();
        x.rock(1);
        due("now(0)", x.now(0), 0);
        due("now(1)", x.now(1), 0);
        due("now(2)", x.now(2), 0);
        x.watch();
        due("now(0)", x.now(0), 1);
        due("now(1)", x.now(1), 1);
        due("now(2)", x.now(2), 1);
        x.watch();
        due("now(0) below 0", x.now(0), -1);
        due("now(1)", x.now(1), 0);
        due("now(3)", x.now(3), -10000);
        due("now(-1)", x.now(-1), -10000);
        for (int far : FAR) {
            due("now(" + far + ")", x.now(far), -10000);
        }
        statusIs("now", x, 6, 0, 0);
        SleepyHelm cook = new SleepyHelm();
        cook.hand(PLAIN, 9, 0);
        cook.hand(COOK, 5, 0);
        due("now(2) unfed", cook.now(2), 0);
        cook.feed(1);
        due("now(2) fed", cook.now(2), 1);
    }

    /** Of two() by hand: tired 10 10, 6 11, 7 7, 3 8, 4 4, 0 5: steer 0, 1, 0, 1, 0 (watch 4: 4 against 1), 1. */
    private static void promise13Then() {
        SleepyHelm x = two();
        int[] steers = {0, 1, 0, 1, 0, 1};
        int[] places = {0, 1, -1, 0, -2, -1};
        for (int m = 0; m < steers.length; m++) {
            due("then(" + m + ", 0)", x.then(m, 0), places[m]);
            due("then(" + m + ", 1)", x.then(m, 1), steers[m]);
        }
        for (int[] w : new int[][] {{-1, 0}, {61, 0}, {0, -1}, {0, 2}}) {
            due("then(" + w[0] + ", " + w[1] + ")", x.then(w[0], w[1]), -10000);
        }
        for (int far : FAR) {
            due("then(" + far + ", 0)", x.then(far, 0), -10000);
            due("then(0, " + far + ")", x.then(0, far), -10000);
        }
        statusIs("then", x, 12, 0, 0);
        int far = x.then(60, 0);
        int who = x.then(60, 1);
        for (int w = 0; w < 60; w++) {
            x.watch();
        }
        due("then(60, 0) is as it comes", x.now(0), far);
        due("then(60, 1) is as it comes", x.now(2), who);

        SleepyHelm fed = new SleepyHelm();
        fed.hand(PLAIN, 9, 1);
        fed.hand(COOK, 8, -1);
        fed.feed(1);
        due("then: fed in the first watch", fed.then(0, 1), 1);
        due("then: place", fed.then(1, 0), -1);
        due("then: nobody in the second", fed.then(1, 1), 0);
        due("then: place", fed.then(2, 0), 0);
        due("then of no crew", new SleepyHelm().then(60, 1), NONE);
    }

    private static void promise14Strikes() {
        SleepyHelm x = two();
        due("strikes() of no rocks", x.strikes(), NONE);
        x.rock(-2);
        due("strikes()", x.strikes(), 4);
        x.rock(0);
        due("strikes(): her place now is no strike", x.strikes(), 3);
        x.rock(1);
        due("strikes()", x.strikes(), 1);

        SleepyHelm still = new SleepyHelm();
        still.rock(0);
        due("strikes() of one who lies on it", still.strikes(), 1);

        SleepyHelm late = new SleepyHelm();
        late.hand(PLAIN, 1, 1);
        late.rock(12);
        due("strikes(): 12 behind 23 watches, steering in every second one", late.strikes(), 23);
        late.ship();
        late.hand(PLAIN, 1, 2);
        late.rock(60);
        due("strikes(): 60 behind 59 watches", late.strikes(), 59);
        late.ship();
        late.hand(PLAIN, 0, 2);
        late.rock(60);
        due("strikes(): 60 behind 60 watches", late.strikes(), 60);
        late.ship();
        late.hand(COLD, 0, 2);
        late.rock(-60);
        due("strikes(): never", late.strikes(), NONE);
    }

    /** Plain 9 (nods 1), cook 8 (nods -1), talker 14 (nods 3): unfed 0 steers, cook fed 1 steers, talker fed 2. */
    private static void promise15Peas() {
        SleepyHelm x = new SleepyHelm();
        x.hand(PLAIN, 9, 1);
        x.hand(COOK, 8, -1);
        x.hand(TALKER, 14, 3);
        due("peas(1, 1, -1)", x.peas(1, 1, -1), 0);
        due("peas(1, 1, 0)", x.peas(1, 1, 0), 6);
        due("peas(-1, 1, -1)", x.peas(-1, 1, -1), 1);
        due("peas(-1, 1, 0)", x.peas(-1, 1, 0), 1);
        due("peas(3, 1, 0)", x.peas(3, 1, 0), 2);
        due("peas(3, 1, 1)", x.peas(3, 1, 1), -5);
        due("peas(3, 1, max)", x.peas(3, 1, Integer.MAX_VALUE), -5);
        due("peas(2, 1, -1)", x.peas(2, 1, -1), NONE);
        due("peas(2, 1, 7): none, whatever i is", x.peas(2, 1, 7), NONE);
        // Behind 0: 5, 9, 16: nobody: 1 steers: place 0; the talker (16) fed: place 4. Behind 2: 10, 9, 10: 0 steers.
        due("peas(4, 2, -1)", x.peas(4, 2, -1), 1);
        due("peas(4, 2, 0): nobody ahead of all", x.peas(4, 2, 0), 6);
        due("peas(4, 2, 1)", x.peas(4, 2, 1), 2);
        due("peas(4, 2, 2)", x.peas(4, 2, 2), -5);
        due("peas(0, 2, -1)", x.peas(0, 2, -1), 0);
        // Behind 1: 10, 4, 16: the talker fed: place 2. Behind 2, the cook (9) fed: place 2, too, but it comes later.
        due("peas(2, 2, -1)", x.peas(2, 2, -1), 2);
        due("peas(2, 2, 0)", x.peas(2, 2, 0), 1);
        due("peas(2, 2, 1)", x.peas(2, 2, 1), 2);
        x.feed(1);
        due("peas besides those fed now", x.peas(-1, 1, -1), 0);
        due("peas(1, 1, -1): he eats already", x.peas(1, 1, -1), NONE);
        for (int[] w : new int[][] {{-61, 1, 0}, {61, 1, 0}, {0, 0, 0}, {0, 5, 0}, {0, 1, -2}}) {
            due("peas(" + w[0] + ", " + w[1] + ", " + w[2] + ")", x.peas(w[0], w[1], w[2]), -10);
        }
        for (int far : FAR) {
            due("peas(" + far + ", 1, 0)", x.peas(far, 1, 0), -10);
            due("peas(0, " + far + ", 0)", x.peas(0, far, 0), -10);
        }
        due("peas(0, 1, min)", x.peas(0, 1, Integer.MIN_VALUE), -10);
        statusIs("peas", x, 14, 0, 0);
        due("peas(0, 4, -1) of no crew", new SleepyHelm().peas(0, 4, -1), 0);
        due("peas(0, 4, 3) of no crew", new SleepyHelm().peas(0, 4, 3), 6);
        due("peas(1, 4, -1) of no crew", new SleepyHelm().peas(1, 4, -1), NONE);
        peasOfLikeWays();
    }

    /** Two cooks who nod alike: the first of them is fed. */
    private static void peasOfLikeWays() {
        SleepyHelm x = new SleepyHelm();
        x.hand(PLAIN, 20, 0);
        x.hand(COOK, 15, 2);
        x.hand(COOK, 15, 2);
        due("peas(2, 1, 0): then rising", x.peas(2, 1, 0), 1);
        SleepyHelm first = new SleepyHelm();
        first.hand(COOK, 15, 2);
        first.hand(PLAIN, 20, 0);
        due("peas(2, 1, 0): the first of the crew may be fed, too", first.peas(2, 1, 0), 0);
        due("peas(2, 3, -1)", x.peas(2, 3, -1), 0);
        due("peas(60, 4, -1)", x.peas(60, 4, -1), NONE);
        due("peas(-60, 4, -1)", x.peas(-60, 4, -1), NONE);
    }

    private static void promise16CanNot() {
        SleepyHelm x = new SleepyHelm();
        due("canNot(0) of no crew", x.canNot(0), BAD);
        x.hand(PLAIN, 9, 1);
        x.hand(COOK, 8, -1);
        x.hand(BOY, 40, 1);
        // 9 8 (fed 16); 5 9; 6 5 (10); 2 6; 3 2 (4); 0 3; 1 0; 0 1.
        due("canNot(0)", x.canNot(0), 2 + 8 + 32 + 128);
        due("canNot(1)", x.canNot(1), 64);
        due("canNot(2)", x.canNot(2), 255);
        x.feed(1);
        // The cook steers in watch 0: 10 4 (8); 6 5 (10); 2 6; 3 2 (4); 0 3; 1 0; 0 1; in watch 0 any set still may be.
        due("canNot(0) is free of who is fed now", x.canNot(0) & 1, 0);
        due("canNot(0), going as told by THEN", x.canNot(0) & 14, 8);
        due("canNot(1), going as told by THEN", x.canNot(1) & 14, 2);
        due("canNot(-1)", x.canNot(-1), BAD);
        due("canNot(3)", x.canNot(3), BAD);
        for (int far : FAR) {
            due("canNot(" + far + ")", x.canNot(far), BAD);
        }
        statusIs("canNot", x, 7, 0, 0);
        SleepyHelm like = new SleepyHelm();
        like.hand(PLAIN, 5, 0);
        like.hand(PLAIN, 5, 0);
        due("canNot(1): of like ones the first", like.canNot(1) & 1, 1);
        due("canNot(0)", like.canNot(0) & 1, 0);
        SleepyHelm awake = new SleepyHelm();
        awake.hand(PLAIN, 0, 0);
        due("canNot(0): sleepy in every second watch", awake.canNot(0), 1 + 4 + 16 + 64);
    }

    private static void promise17Eat() {
        SleepyHelm x = new SleepyHelm();
        x.hand(PLAIN, 9, 1);
        due("eat(0, 1) of one", x.eat(0, 1), BAD);
        x.hand(COOK, 8, -1);
        x.hand(BOY, 9, 0);
        // The cook steers if he eats: he will not. Whether the plain one eats is all one.
        due("eat(0, 1)", x.eat(0, 1), 3);
        due("eat(1, 0)", x.eat(1, 0), 5);
        due("eat(0, 2)", x.eat(0, 2), 15);
        x.feed(1);
        due("eat(0, 1) instead of as now", x.eat(0, 1), 3);
        due("eat(0, 2): others as now", x.eat(0, 2), 15);

        SleepyHelm cooks = new SleepyHelm();
        cooks.hand(COOK, 10, 1);
        cooks.hand(COOK, 8, 1);
        // Neither: 0 steers (his 20 would be no better). 1 eats: 16 against 10: he would not. Both: 0 steers, and rests not.
        due("eat of two cooks", cooks.eat(0, 1), 3);
        SleepyHelm talkers = new SleepyHelm();
        talkers.hand(TALKER, 10, 1);
        talkers.hand(TALKER, 10, 1);
        talkers.hand(PLAIN, 6, 1);
        // Both: 0 steers and would rather not eat; one alone steers and would rather not.
        due("eat of two talkers", talkers.eat(0, 1), 1);
        talkers.hand(COOK, 9, 1);
        due("eat beside a cook", talkers.eat(0, 1), 1);
        talkers.feed(3);
        due("eat beside a cook who eats", talkers.eat(0, 1), 15);
        due("eat(0, 0)", talkers.eat(0, 0), BAD);
        due("eat(-1, 0)", talkers.eat(-1, 0), BAD);
        due("eat(0, -1)", talkers.eat(0, -1), BAD);
        due("eat(4, 0)", talkers.eat(4, 0), BAD);
        due("eat(0, 4)", talkers.eat(0, 4), BAD);
        for (int far : FAR) {
            due("eat(" + far + ", 0)", talkers.eat(far, 0), BAD);
            due("eat(0, " + far + ")", talkers.eat(0, far), BAD);
        }
        statusIs("eat", talkers, 13, 0, 0);
    }

    private static void promise18Seen() {
        SleepyHelm x = new SleepyHelm();
        for (int[] w : new int[][] {{-1, 0}, {21, 0}, {0, -61}, {0, 61}}) {
            due("seen(" + w[0] + ", " + w[1] + ")", x.seen(w[0], w[1]), BAD);
        }
        for (int far : FAR) {
            due("seen(" + far + ", 0)", x.seen(far, 0), BAD);
            due("seen(0, " + far + ")", x.seen(0, far), BAD);
        }
        due("seen(0, -60)", x.seen(0, -60), 1);
        due("seen(20, 60)", x.seen(20, 60), 2);
        due("seen(20, 60) again", x.seen(20, 60), 3);
        for (int k = 4; k <= 6; k++) {
            due("seen(1, 1)", x.seen(1, 1), k);
        }
        due("seen(1, 1), a seventh", x.seen(1, 1), FULL);
        due("seen(21, 1): BAD ahead of FULL", x.seen(21, 1), BAD);
        due("count(4)", x.count(4), 6);
        statusIs("seen", x, 13, 0, 1);
    }

    private static void promise19Forget() {
        SleepyHelm x = new SleepyHelm();
        due("forget() of none", x.forget(), 0);
        x.seen(0, 5);
        x.seen(1, 5);
        due("pulled(0) by what can not be", x.pulled(0), 0);
        due("forget()", x.forget(), 2);
        due("count(4)", x.count(4), 0);
        due("pulled(0) behind forget()", x.pulled(0), ALL_PULLS);
        due("forget() again", x.forget(), 0);
    }

    /** In two() 0 steers in watches 0, 2, 4, and 1 in watches 1, 3, 5. */
    private static void promise20Nod() {
        SleepyHelm x = two();
        due("nod(0), none seen", x.nod(0), ALL_NODS);
        x.seen(0, 0);
        due("nod(0), seen where she is", x.nod(0), ALL_NODS);
        x.seen(1, -3);
        due("nod(0), nods -3", x.nod(0), 1);
        due("nod(1), he did not steer", x.nod(1), 0);
        x.forget();
        x.seen(3, 4);
        due("nod(0): -2 and twice 3", x.nod(0), 64);
        x.seen(1, 3);
        due("nod(0): all that fits", x.nod(0), 64);
        x.seen(2, 3);
        due("nod(0): -2 is not 0", x.nod(0), 0);
        x.forget();
        x.seen(2, 1);
        due("nod(1): 1 and 0", x.nod(1), 8);
        x.watch();
        due("nod(1): from now: 1, as he nods, 1 more", x.nod(1), 4);
        x.forget();
        x.seen(0, 0);
        due("nod(0): she is not there now", x.nod(0), 0);
        due("nod(-1)", x.nod(-1), BAD);
        due("nod(2)", x.nod(2), BAD);
        for (int far : FAR) {
            due("nod(" + far + ")", x.nod(far), BAD);
        }
        statusIs("nod", x, 6, 0, 0);
    }

    private static void promise21Is() {
        SleepyHelm x = two();
        due("is(1), none seen", x.is(1), ALL_KINDS);
        x.seen(1, 1);
        // In watch 0 he of 10 is behind the plain one of 10, whatever he is: of like ones the first.
        due("is(1)", x.is(1), ALL_KINDS);
        // Fed nobody: plain 10 first; cold 7, talker 5, moonstruck 7, boy 0: then 1 steers first, not so with a cook.
        due("is(0)", x.is(0), 1 << PLAIN | 1 << COLD | 1 << COOK | 1 << MOONSTRUCK);
        x.forget();
        x.seen(1, -2);
        due("is(0): 1 steers first", x.is(0), 1 << TALKER | 1 << BOY);
        x.forget();
        x.seen(2, -1);
        // Behind watch 0: 6 against 11: a talker of 12 is 6: the plain one steers; a boy never does.
        due("is(1), behind two watches", x.is(1), 1 << PLAIN | 1 << COLD | 1 << COOK | 1 << MOONSTRUCK);
        x.forget();
        x.feed(1);
        x.seen(1, -2);
        due("is(1), fed as now", x.is(1), 1 << COOK);
        due("is(-1)", x.is(-1), BAD);
        due("is(2)", x.is(2), BAD);
        for (int far : FAR) {
            due("is(" + far + ")", x.is(far), BAD);
        }
        statusIs("is", x, 6, 0, 0);
    }

    private static void promise22Look() {
        SleepyHelm x = two();
        x.hand(BOY, 9, 1);
        due("look(0)", x.look(0), 1);
        due("look(1)", x.look(1), 2);
        due("look(2): all alike, the first", x.look(2), 0);
        x.seen(1, 3);
        due("look(0): one nod, the first watch", x.look(0), 0);
        due("look(1): no nod", x.look(1), NONE);
        x.forget();
        x.seen(0, 0);
        x.watch();
        due("look(1): she is not where she was seen", x.look(1), NONE);
        x.forget();
        due("look(1): from now", x.look(1), 1);
        due("look(0): from now", x.look(0), 2);
        due("look(-1)", x.look(-1), BAD);
        due("look(3)", x.look(3), BAD);
        for (int far : FAR) {
            due("look(" + far + ")", x.look(far), BAD);
        }
        statusIs("look", x, 6, 0, 0);
        lookFarAhead();
    }

    /** A plain one of 40 is 4 less each watch, a cold one of 0 is one more: 4 against 9 in watch 9, 8 against 5 in 8. */
    private static void lookFarAhead() {
        SleepyHelm x = new SleepyHelm();
        x.hand(PLAIN, 40, 1);
        x.hand(COLD, 0, 1);
        due("look(1) is behind the watch in which he first steers", x.look(1), 10);
        // Three plain ones together are 2 less each watch, the fourth is one more.
        x.ship();
        x.hand(PLAIN, 30, 1);
        x.hand(PLAIN, 29, 1);
        x.hand(PLAIN, 28, 1);
        x.hand(PLAIN, 0, 1);
        due("he steers in watch 19", x.then(19, 1), 3);
        due("look(3): the last watch that may be looked at", x.look(3), 20);
        x.ship();
        for (int h = 0; h < 4; h++) {
            x.hand(PLAIN, 20, 1);
        }
        x.hand(PLAIN, 0, 1);
        due("he steers in watch 20", x.then(20, 1), 4);
        due("look(4): too late to be looked at", x.look(4), 0);
    }

    /** No crew: she lies at 0, so that what is seen is the pull alone. */
    private static void promise23Pulled() {
        SleepyHelm x = new SleepyHelm();
        due("pulled(9), none seen", x.pulled(9), ALL_PULLS);
        x.seen(5, 3);
        due("pulled(3): in one of the first 5", x.pulled(3), 31);
        x.seen(2, 0);
        due("pulled(3): in the third to fifth", x.pulled(3), 4 + 8 + 16);
        due("pulled(2)", x.pulled(2), 0);
        due("pulled(0)", x.pulled(0), 0);
        x.forget();
        x.seen(0, 0);
        due("pulled(3): ahead of the first watch she is not pulled", x.pulled(3), ALL_PULLS);
        x.seen(1, 3);
        due("pulled(3): bit 0 is this watch", x.pulled(3), 1);
        x.forget();
        x.seen(20, -9);
        due("pulled(-9)", x.pulled(-9), ALL_PULLS);
        x.seen(19, 0);
        due("pulled(-9): in the last of 20", x.pulled(-9), 1 << 19);
        x.forget();
        x.seen(20, 0);
        due("pulled(0)", x.pulled(0), ALL_PULLS);
        due("pulled(1): none of 20", x.pulled(1), 0);
        due("pulled(10)", x.pulled(10), BAD);
        due("pulled(-10)", x.pulled(-10), BAD);
        for (int far : FAR) {
            due("pulled(" + far + ")", x.pulled(far), BAD);
        }
        statusIs("pulled", x, 6, 0, 0);
        SleepyHelm moving = two();
        moving.seen(1, 1);
        moving.seen(2, 3);
        due("pulled(4) of one who goes", moving.pulled(4), 2);
    }

    /** two() is at 0, 1, -1, 0, -2, -1. */
    private static void promise24Meet() {
        SleepyHelm x = two();
        due("meet(0, 3, 0)", x.meet(0, 3, 0), 0);
        due("meet(0, 3, 1)", x.meet(0, 3, 1), 0);
        due("meet(3, -2, 0): 3 1", x.meet(3, -2, 0), 1);
        due("meet(3, -2, 1)", x.meet(3, -2, 1), 1);
        due("meet(3, -3, 0): 3 0 -3", x.meet(3, -3, 0), NONE);
        due("meet(3, -3, 1)", x.meet(3, -3, 1), 1);
        due("meet(-2, 1, 0): -2 -1 0 1", x.meet(-2, 1, 0), NONE);
        due("meet(-2, 1, 1): 0 is not below -1", x.meet(-2, 1, 1), 2);
        due("meet(-2, 0, 0)", x.meet(-2, 0, 0), 4);
        due("meet(-2, 0, 1)", x.meet(-2, 0, 1), 4);
        due("meet(60, 3, 0)", x.meet(60, 3, 0), NONE);
        due("meet(60, 3, 1)", x.meet(60, 3, 1), NONE);
        for (int[] w : new int[][] {{-61, 0, 0}, {61, 0, 0}, {0, -4, 0}, {0, 4, 0}, {0, 0, -1}, {0, 0, 2}}) {
            due("meet(" + w[0] + ", " + w[1] + ", " + w[2] + ")", x.meet(w[0], w[1], w[2]), BAD);
        }
        for (int far : FAR) {
            due("meet(" + far + ", 0, 0)", x.meet(far, 0, 0), BAD);
            due("meet(0, " + far + ", 0)", x.meet(0, far, 0), BAD);
            due("meet(0, 0, " + far + ")", x.meet(0, 0, far), BAD);
        }
        statusIs("meet", x, 18, 0, 0);
        SleepyHelm still = new SleepyHelm();
        due("meet(60, -1, 0): behind 60", still.meet(60, -1, 0), 60);
        due("meet(60, -1, 1): behind 60", still.meet(60, -1, 1), 60);
        due("meet(-60, 1, 0): behind 60", still.meet(-60, 1, 0), 60);
        due("meet(-60, 1, 1): behind 60", still.meet(-60, 1, 1), 60);
        due("meet(1, 0, 1)", still.meet(1, 0, 1), NONE);
    }

    private static void fractionIs(String when, SleepyHelm x, long above, long below) {
        due(when + ": part(0)", x.part(0), above);
        due(when + ": part(1)", x.part(1), below);
    }

    private static void promise25Odds() {
        SleepyHelm x = new SleepyHelm();
        due("odds(0, 5) of no crew", x.odds(0, 5), BAD);
        x.hand(PLAIN, 9, 1);
        x.hand(COOK, 8, 1);
        x.hand(TALKER, 20, 1);
        // Unfed 9, 8, 10; the cook fed 16, the talker fed 20.
        due("odds(0, 5)", x.odds(0, 5), 1);
        fractionIs("the plain one never", x, 0, 1);
        due("odds(1, 5)", x.odds(1, 5), 1);
        fractionIs("the cook, if he eats and the talker does not", x, 1, 4);
        due("odds(2, 5)", x.odds(2, 5), 1);
        fractionIs("the talker else", x, 3, 4);
        due("odds(1, 3)", x.odds(1, 3), 1);
        fractionIs("3 by 10 and 7 by 10", x, 21, 100);
        due("odds(2, 0)", x.odds(2, 0), 1);
        fractionIs("nobody eats", x, 1, 1);
        due("odds(1, 10)", x.odds(1, 10), 1);
        fractionIs("all eat", x, 0, 1);
        x.feed(1);
        due("odds(1, 0): nobody else is fed", x.odds(1, 0), 1);
        fractionIs("who is fed now does not count", x, 0, 1);
        x.odds(2, 1);
        fractionIs("1 - 1/10 9/10", x, 91, 100);
        for (int[] w : new int[][] {{-1, 0}, {3, 0}, {0, -1}, {0, 11}}) {
            due("odds(" + w[0] + ", " + w[1] + ")", x.odds(w[0], w[1]), BAD);
        }
        for (int far : FAR) {
            due("odds(" + far + ", 0)", x.odds(far, 0), BAD);
            due("odds(0, " + far + ")", x.odds(0, far), BAD);
        }
        fractionIs("refused, the fraction stays", x, 91, 100);
        statusIs("odds", x, 13, 0, 0);
        SleepyHelm cooks = new SleepyHelm();
        for (int h = 0; h < 6; h++) {
            cooks.hand(COOK, 9, 0);
        }
        cooks.odds(5, 1);
        fractionIs("the last of six cooks, if he alone eats", cooks, 59049, 1000000);
        cooks.odds(0, 1);
        fractionIs("the first of six: he eats, or nobody does", cooks, 100000 + 531441, 1000000);
        SleepyHelm asleep = new SleepyHelm();
        asleep.hand(BOY, 9, 0);
        asleep.hand(PLAIN, 0, 0);
        asleep.odds(0, 5);
        fractionIs("a boy never", asleep, 0, 1);
        asleep.odds(1, 5);
        fractionIs("one who is not sleepy never", asleep, 0, 1);
        asleep.watch();
        asleep.odds(1, 5);
        fractionIs("one who is sleepy by 1 always", asleep, 1, 1);
    }

    /** From 1: X is 1103527590, X by 65536 is 16838, by 7 left over 3; from 0: 12345, 0, 0. */
    private static void promise26Voyages() {
        SleepyHelm x = new SleepyHelm();
        x.hand(COOK, 7, 1);
        x.hand(COOK, 8, 2);
        x.hand(COOK, 8, 3);
        due("voyages(0, 0)", x.voyages(0, 0), 0);
        due("voyages(0, 1): 0 is fed", x.voyages(0, 1), 1);
        due("voyages(1, 1): 3 is not there, nobody is fed", x.voyages(1, 1), 2);
        x.feed(2);
        due("voyages(0, 1): 0 is fed alone", x.voyages(0, 1), 1);
        due("voyages(1, 1): nobody is fed", x.voyages(1, 1), 2);
        x.watch();
        due("voyages(5, 0) is her place", x.voyages(5, 0), 3);
        x.ship();
        x.hand(PLAIN, 40, -3);
        due("voyages(999999, 3), below 0", x.voyages(999999, 3), -9);
        for (int[] w : new int[][] {{-1, 0}, {1000000, 0}, {0, -1}, {0, 61}}) {
            due("voyages(" + w[0] + ", " + w[1] + ")", x.voyages(w[0], w[1]), -10000);
        }
        for (int far : FAR) {
            due("voyages(" + far + ", 0)", x.voyages(far, 0), -10000);
            due("voyages(0, " + far + ")", x.voyages(0, far), -10000);
        }
        statusIs("voyages", x, 12, 0, 0);
        due("voyages(7, 60) of no crew", new SleepyHelm().voyages(7, 60), 0);
        // From 1 on: 1103527590, 377401575: by 7 left over 3, then 4. From 0 on: 12345, 1406932606: 0, then 6.
        SleepyHelm cooks = new SleepyHelm();
        for (int h = 0; h < 6; h++) {
            cooks.hand(COOK, 10, h - 3);
        }
        due("voyages(1, 1): 3 steers", cooks.voyages(1, 1), 0);
        due("voyages(1, 2): 3, then 4", cooks.voyages(1, 2), 1);
        due("voyages(0, 1): 0 steers", cooks.voyages(0, 1), -3);
        due("voyages(0, 2): 0, then nobody is fed, and 1 steers", cooks.voyages(0, 2), -5);
    }

    private static void promise27Part() {
        SleepyHelm x = new SleepyHelm();
        fractionIs("at first", x, 0, 1);
        due("part(2)", x.part(2), BAD);
        due("part(-1)", x.part(-1), BAD);
        for (int far : FAR) {
            due("part(" + far + ")", x.part(far), BAD);
        }
        statusIs("part", x, 6, 0, 0);
    }

    private static void promise28And29Images() {
        SleepyHelm x = two();
        x.rock(9);
        x.seen(3, 3);
        x.feed(0);
        x.watch();
        x.feed(1);
        due("from(0): none was kept", x.from(0), NO);
        due("image(0)", x.image(0), 1);
        due("from(1): none was kept", x.from(1), NO);
        long kept = x.digest();
        x.watch();
        x.watch();
        x.rock(8);
        x.forget();
        due("image(1)", x.image(1), 1);
        long second = x.digest();
        x.ship();
        due("from(0)", x.from(0), 1);
        due("digest() as kept", x.digest(), kept);
        due("from(1)", x.from(1), 1);
        due("digest() as kept in 1", x.digest(), second);
        x.from(0);
        due("what may be undone is kept: peas", x.undo(), 1);
        due("what may be undone is kept: the watch", x.undo(), 0);
        due("fed then", x.of(0, 3), 1);
        due("what may be undone is kept: the first peas", x.undo(), 0);
        due("then nothing", x.undo(), NO);
        x.from(0);
        due("an image stays as it was kept", x.digest(), kept);
        x.watch();
        x.image(0);
        x.from(0);
        due("an image kept again is the new one", x.count(2), 2);
        x.odds(0, 0);
        x.type('s');
        long above = x.part(0);
        x.from(1);
        due("from(1) leaves the fraction", x.part(0), above);
        due("from(1) leaves the text", x.count(6), 1);
        for (int i : new int[] {-1, 2}) {
            due("image(" + i + ")", x.image(i), BAD);
            due("from(" + i + ")", x.from(i), BAD);
        }
        for (int far : FAR) {
            due("image(" + far + ")", x.image(far), BAD);
            due("from(" + far + ")", x.from(far), BAD);
        }
        statusIs("from(1) leaves the status", x, 12, 3, 0);
    }

    /** What comes behind an image writes over the same rows: the image has its own. */
    private static void promise28And29ImagesHaveTheirOwn() {
        SleepyHelm x = two();
        x.rock(9);
        x.seen(3, 3);
        x.feed(0);
        x.watch();
        x.feed(1);
        x.image(0);
        long kept = x.digest();
        x.ship();
        x.hand(COOK, 1, 3);
        x.hand(COOK, 2, 3);
        x.rock(-9);
        x.seen(4, 4);
        x.feed(1);
        x.watch();
        x.watch();
        x.from(0);
        due("digest() as kept", x.digest(), kept);
        due("undo() as kept", x.undo(), 1);
        tiredAre("as kept", x, 6, 11);
        due("undo() as kept", x.undo(), 0);
        tiredAre("as kept", x, 10, 10);
        due("fed as kept", x.of(0, 3), 1);
        due("undo() as kept", x.undo(), 0);
        due("fed as kept", x.of(0, 3), 0);
    }

    private static void promise30Status() {
        SleepyHelm x = new SleepyHelm();
        due("status(3)", x.status(3), -1);
        due("status(-1)", x.status(-1), -1);
        statusIs("another what counts as BAD", x, 2, 0, 0);
        for (int far : FAR) {
            due("status(" + far + ")", x.status(far), -1);
        }
        statusIs("another what", x, 6, 0, 0);
        x.rock(1);
        x.rock(1);
        x.undo();
        x.of(9, 9);
        x.now(9);
        x.peas(99, 9, 9);
        x.voyages(-1, -1);
        statusIs("other answers of BAD count", x, 10, 2, 0);
        x.peas(0, 1, 3);
        x.peas(5, 1, 3);
        x.watch();
        x.strikes();
        x.read();
        statusIs("none, not so many and a fault do not", x, 10, 2, 0);
        x.ship();
        statusIs("ship() leaves it", x, 10, 2, 0);
    }

    private static void promise31Count() {
        SleepyHelm x = two();
        x.hand(BOY, 1, 1);
        x.rock(1);
        x.rock(2);
        x.watch();
        x.watch();
        x.watch();
        x.watch();
        x.feed(0);
        x.feed(2);
        x.seen(1, 1);
        x.type('a');
        x.type('b');
        x.type('c');
        int[] want = {3, 2, 4, 2, 1, 6, 3};
        for (int what = 0; what <= 6; what++) {
            due("count(" + what + ")", x.count(what), want[what]);
        }
        due("count(7)", x.count(7), BAD);
        due("count(-1)", x.count(-1), BAD);
        for (int far : FAR) {
            due("count(" + far + ")", x.count(far), BAD);
        }
        statusIs("count", x, 6, 0, 0);
    }

    private static long folded(long... values) {
        long h = 1181;
        for (long v : values) {
            h = 31 * h + v;
        }
        return h;
    }

    private static void promise32Digest() {
        SleepyHelm x = new SleepyHelm();
        due("digest() of a new one", x.digest(), folded(0, 0, 0, 0, 0, 0, 0, 0, 0, 1));
        x.hand(PLAIN, 10, 1);
        x.hand(COOK, 10, -2);
        x.rock(7);
        x.rock(-8);
        x.watch();
        x.watch();
        x.feed(1);
        x.seen(20, -5);
        x.seen(0, 6);
        x.type(' ');
        x.odds(0, 3);
        // 0 steers (like ones), then 6 11: 1 steers; 7 7: unfed 0 does, and fed 1 does: 7 by 10.
        due("digest()", x.digest(), folded(2, 2, 2, 1, 2, 3, 1, -1, 0, 7, 1, 0, 3, 7, -2, 1, 7, -8, 20, -5, 0, 6, 7, 10));
        statusIs("digest()", x, 0, 0, 0);
        x.status(9);
        due("digest() does not tell the status", x.digest(),
            folded(2, 2, 2, 1, 2, 3, 1, -1, 0, 7, 1, 0, 3, 7, -2, 1, 7, -8, 20, -5, 0, 6, 7, 10));
    }

    private static void questionsChangeNothing() {
        SleepyHelm x = told("ship;rock 3;hand 0 10 1;lean 1 10 2;hand 2 18 3;lean 3 9 1;");
        x.watch();
        x.feed(3);
        x.seen(1, 0);
        long before = x.digest();
        x.of(0, 4);
        x.now(2);
        x.then(60, 1);
        x.strikes();
        x.peas(3, 4, 0);
        x.canNot(0);
        x.eat(0, 3);
        x.nod(0);
        x.is(1);
        x.look(2);
        x.pulled(1);
        x.meet(5, -1, 1);
        x.voyages(9, 60);
        x.part(0);
        x.status(0);
        x.count(0);
        due("questions change nothing", x.digest(), before);
        due("what may be undone stays", x.undo(), 1);
        due("what may be undone stays", x.undo(), 0);
        statusIs("questions", x, 0, 0, 0);
    }

    private static void refusalsChangeNothing() {
        SleepyHelm x = told("ship;rock 3;hand 0 10 1;lean 1 10 2;");
        x.feed(0);
        x.odds(0, 4);
        x.image(0);
        long before = x.digest();
        x.rock(99);
        x.rock(3);
        x.hand(9, 9, 9);
        x.type(999);
        x.feed(0);
        x.feed(5);
        x.seen(99, 99);
        x.odds(0, 99);
        x.image(7);
        x.from(1);
        x.from(7);
        due("refusals change nothing", x.digest(), before);
        statusIs("refusals", x, 8, 3, 0);
    }
}
