/** The edges of what is kept: a new object, ship, clear, UNDO, IMAGES, STATUS, THE FRACTION, COUNT, the digest. */
public final class KeepEdgeTest {
    private static final int NONE = -1, BAD = -2, NO = -3, FULL = -4;
    private static final int PLAIN = Ships.PLAIN, COOK = Ships.COOK, TALKER = Ships.TALKER;

    private static final Check check = new Check();

    public static void main(String[] args) {
        aNewObject();
        allAsAtFirst();
        shipOfNoneAndOfSix();
        undoNone();
        undoEightAtMost();
        undoWatchesAndPeas();
        undoBehindOneThatComes();
        undoLeavesTheRest();
        whatIsNoWatchAndNoPeasIsNotUndone();
        imagesZeroAndOne();
        imagesOfAnEmptyShip();
        imagesKeepWhatMayBeUndone();
        imagesLeaveTheRest();
        imagesStay();
        statusOfEachReason();
        whatIsNotRefused();
        answersToldOtherwiseCount();
        fractionAtFirst();
        countsOfNothingAndAll();
        digestOfAll();
        digestIsAsToldBehindRefusals();
        check.end();
    }

    private static void due(String call, long got, long want) {
        check.due(call, got, want);
    }

    private static void counts(String when, SleepyHelm x, int... want) {
        for (int what = 0; what < want.length; what++) {
            due(when + ": count(" + what + ")", x.count(what), want[what]);
        }
    }

    private static void status(String when, SleepyHelm x, int... want) {
        for (int what = 0; what <= 2; what++) {
            due(when + ": status(" + what + ")", x.status(what), want[what]);
        }
    }

    /** "As told; no CREW, ROCKS." */
    private static void aNewObject() {
        SleepyHelm x = new SleepyHelm();
        status("new", x, 0, 0, 0);
        counts("new", x, 0, 0, 0, 0, 0, 0, 0);
        due("new: now(0)", x.now(0), 0);
        due("new: now(1)", x.now(1), 0);
        due("new: now(2)", x.now(2), NONE);
        due("new: strikes()", x.strikes(), NONE);
        due("new: part(0)", x.part(0), 0);
        due("new: part(1)", x.part(1), 1);
        due("new: feed(0)", x.feed(0), BAD);
        due("new: undo()", x.undo(), NO);
        due("new: from(0)", x.from(0), NO);
        due("new: from(1)", x.from(1), NO);
        due("new: read()", x.read(), -10);
        due("new: forget()", x.forget(), 0);
        due("new: clear()", x.clear(), 0);
        due("new: ship()", x.ship(), 0);
        status("new", x, 1, 3, 0);
    }

    /** "All as at first (but for IMAGES, THE TEXT, THE FRACTION, STATUS)": what is left is what a new one would have. */
    private static void allAsAtFirst() {
        SleepyHelm x = new SleepyHelm();
        Ships.full(x);
        int[] refused = {x.status(0), x.status(1), x.status(2)};
        long above = x.part(0);
        long below = x.part(1);
        due("ship()", x.ship(), 6);
        counts("ship()", x, 0, 0, 0, 0, 0, 0, 150);
        due("ship(): now(0)", x.now(0), 0);
        due("ship(): now(1), she was on a rock there", x.now(1), 0);
        due("ship(): now(2)", x.now(2), NONE);
        due("ship(): part(0)", x.part(0), above);
        due("ship(): part(1)", x.part(1), below);
        status("ship()", x, refused);
        due("ship(): undo()", x.undo(), NO);
        due("ship(): rock(-20), one of the former ship", x.rock(-20), 1);
        due("ship(): hand(3, 9, 1)", x.hand(COOK, 9, 1), 0);
        due("ship(): nobody is fed", x.of(0, 3), 0);
        due("ship(): nothing was seen", x.nod(0), 127);
        due("ship(): from(0)", x.from(0), 1);
        counts("image 0", x, 6, 6, 7, 0, 6, 7, 150);
        due("ship(): from(1)", x.from(1), 1);
        counts("image 1", x, 6, 6, 3, 0, 6, 3, 150);
    }

    private static void shipOfNoneAndOfSix() {
        SleepyHelm x = new SleepyHelm();
        for (int crew = 0; crew <= 6; crew++) {
            for (int h = 0; h < crew; h++) {
                x.hand(h, h, 0);
            }
            due("ship()", x.ship(), crew);
        }
        due("ship() again", x.ship(), 0);
    }

    /** "NO: none may be." */
    private static void undoNone() {
        SleepyHelm x = new SleepyHelm();
        due("new: undo()", x.undo(), NO);
        x.watch();
        due("a watch of no crew: undo()", x.undo(), 0);
        due("undone: undo()", x.undo(), NO);
        x.rock(1);
        x.seen(1, 1);
        x.type('s');
        x.image(0);
        due("no watch, no peas: undo()", x.undo(), NO);
        x.hand(PLAIN, 9, 1);
        due("one has come: undo()", x.undo(), NO);
        due("refused peas: feed(1)", x.feed(1), BAD);
        due("refused peas: undo()", x.undo(), NO);
        x.feed(0);
        due("refused peas: feed(0)", x.feed(0), NO);
        due("count(5): the refused ones are none", x.count(5), 1);
        due("undo()", x.undo(), 0);
        due("undo()", x.undo(), NO);
    }

    /** "(8 at most": of 7, 8, 9 and 20 watches. */
    private static void undoEightAtMost() {
        for (int gone : new int[] {0, 1, 7, 8, 9, 20}) {
            SleepyHelm x = new SleepyHelm();
            Ships.five(x, 1);
            Ships.watches(x, gone);
            int may = Math.min(8, gone);
            due("behind " + gone + ": count(5)", x.count(5), may);
            for (int u = 1; u <= may; u++) {
                due("behind " + gone + ": undo() " + u, x.undo(), gone - u);
                due("undone: count(5)", x.count(5), may - u);
                due("undone: now(0)", x.now(0), gone - u);
                due("undone: now(2)", x.now(2), (gone - u) % 5);
            }
            due("behind " + gone + ": undo() of no more", x.undo(), NO);
            due("she stays: now(0)", x.now(0), gone - may);
            Ships.watches(x, 9);
            due("again: count(5)", x.count(5), 8);
        }
    }

    /** "PLACE, WATCH, TIRED, FED as ahead of the last WATCH gone by, PEAS served": each is one of the 8. */
    private static void undoWatchesAndPeas() {
        SleepyHelm x = new SleepyHelm();
        x.hand(PLAIN, 20, 1);
        x.hand(COOK, 15, -2);
        x.hand(TALKER, 30, 3);
        long[] digests = new long[13];
        int[] watches = {0, 0, 0, 1, 1, 2, 3, 3, 3, 3, 4, 4};
        String told = "ffwfwwfffwfw";
        int[] who = {1, 2, 0, 2, 0, 0, 0, 1, 2, 0, 1, 0};
        for (int k = 0; k < 12; k++) {
            digests[k] = digestButUndo(x);
            if (told.charAt(k) == 'f') {
                due("feed(" + who[k] + ")", x.feed(who[k]), 1);
            } else {
                x.watch();
            }
        }
        for (int k = 11; k >= 4; k--) {
            due("undo() of " + k, x.undo(), watches[k]);
            due("as ahead of " + k, digestButUndo(x), digests[k]);
        }
        due("beyond 8: undo()", x.undo(), NO);
        due("as ahead of 4", digestButUndo(x), digests[4]);
    }

    /** PLACE, WATCH and the crew's TIRED and FED. */
    private static long digestButUndo(SleepyHelm x) {
        long h = 31L * x.now(0) + x.count(2);
        for (int c = 0; c < x.count(0); c++) {
            h = 31 * (31 * h + x.of(c, 1)) + x.of(c, 3);
        }
        return h;
    }

    /** "behind one of the CREW that comes none may be": but for one that is refused. */
    private static void undoBehindOneThatComes() {
        SleepyHelm x = new SleepyHelm();
        for (int h = 0; h <= 5; h++) {
            Ships.watches(x, 9);
            due("ahead: count(5)", x.count(5), 8);
            due("not as told", x.hand(6, 0, 0), BAD);
            due("refused: count(5)", x.count(5), 8);
            due("he comes", x.hand(0, 20, 0), h);
            due("behind: count(5)", x.count(5), 0);
            due("behind: undo()", x.undo(), NO);
            due("behind: count(2)", x.count(2), 9 * h + 9);
        }
        x.watch();
        due("a seventh", x.hand(0, 20, 0), FULL);
        due("refused: count(5)", x.count(5), 1);
        due("refused: undo()", x.undo(), 54);
    }

    /** Rocks, what was seen, THE TEXT, THE FRACTION, IMAGES and STATUS stay. */
    private static void undoLeavesTheRest() {
        SleepyHelm x = new SleepyHelm();
        Ships.five(x, 1);
        x.watch();
        x.rock(5);
        x.seen(3, 3);
        x.type('s');
        x.odds(1, 5);
        x.image(1);
        x.rock(5);
        due("undo()", x.undo(), 0);
        counts("undone", x, 5, 1, 0, 0, 1, 0, 1);
        due("undone: part(0)", x.part(0), 1);
        status("undone", x, 0, 1, 0);
        due("undone: from(1)", x.from(1), 1);
        counts("the image", x, 5, 1, 1, 0, 1, 1, 1);
    }

    private static void whatIsNoWatchAndNoPeasIsNotUndone() {
        SleepyHelm x = new SleepyHelm();
        Ships.five(x, 1);
        x.watch();
        x.rock(5);
        x.seen(3, 3);
        x.forget();
        x.type('s');
        x.clear();
        x.odds(1, 5);
        x.image(0);
        x.then(60, 0);
        x.peas(0, 4, -1);
        x.voyages(5, 60);
        x.read();
        due("count(5)", x.count(5), 1);
        due("undo()", x.undo(), 0);
        due("undo() of no more", x.undo(), NO);
    }

    /** "IMAGES 0, 1". */
    private static void imagesZeroAndOne() {
        SleepyHelm x = new SleepyHelm();
        x.rock(1);
        due("image(-1)", x.image(-1), BAD);
        due("image(2)", x.image(2), BAD);
        due("from(-1)", x.from(-1), BAD);
        due("from(2)", x.from(2), BAD);
        due("from(0): none was kept", x.from(0), NO);
        due("from(1): none was kept", x.from(1), NO);
        due("image(0)", x.image(0), 1);
        due("from(1): none was kept there", x.from(1), NO);
        x.rock(2);
        due("image(1)", x.image(1), 1);
        x.rock(3);
        due("from(0)", x.from(0), 1);
        due("one rock", x.count(1), 1);
        due("from(1)", x.from(1), 1);
        due("two rocks", x.count(1), 2);
        due("from(1) again", x.from(1), 1);
        x.rock(4);
        due("image(0) again", x.image(0), 1);
        x.ship();
        due("from(0)", x.from(0), 1);
        due("three rocks", x.count(1), 3);
        due("from(1) is another", x.from(1), 1);
        due("two rocks", x.count(1), 2);
        status("images", x, 4, 3, 0);
    }

    private static void imagesOfAnEmptyShip() {
        SleepyHelm x = new SleepyHelm();
        due("image(1) of nothing", x.image(1), 1);
        Ships.full(x);
        x.image(0);
        x.ship();
        x.image(1);
        x.from(0);
        due("from(1) of nothing", x.from(1), 1);
        counts("an empty one", x, 0, 0, 0, 0, 0, 0, 150);
        due("an empty one: undo()", x.undo(), NO);
        due("an empty one: now(0)", x.now(0), 0);
    }

    /** "what may be undone they keep": all 8, and none. */
    private static void imagesKeepWhatMayBeUndone() {
        SleepyHelm x = new SleepyHelm();
        Ships.five(x, 1);
        x.image(1);
        Ships.watches(x, 12);
        x.image(0);
        for (int again = 0; again < 2; again++) {
            Ships.watches(x, 3);
            due("from(0)", x.from(0), 1);
            for (int u = 1; u <= 8; u++) {
                due("undo() " + u, x.undo(), 12 - u);
                due("now(0)", x.now(0), 12 - u);
            }
            due("undo() of no more", x.undo(), NO);
        }
        Ships.watches(x, 3);
        due("from(1)", x.from(1), 1);
        due("undo() of none", x.undo(), NO);
        due("count(2)", x.count(2), 0);
    }

    /** "keep all but them, THE TEXT, THE FRACTION and STATUS". */
    private static void imagesLeaveTheRest() {
        SleepyHelm x = new SleepyHelm();
        Ships.five(x, 1);
        x.image(0);
        Ships.type(x, "ship;");
        x.odds(0, 5);
        x.rock(61);
        x.undo();
        due("from(0)", x.from(0), 1);
        due("the text stays: count(6)", x.count(6), 5);
        due("the fraction stays: part(0)", x.part(0), 1);
        status("it stays", x, 1, 1, 0);
        x.clear();
        x.odds(1, 5);
        x.from(0);
        due("the text stays empty: count(6)", x.count(6), 0);
        due("the fraction stays 0: part(0)", x.part(0), 0);
        x.image(1);
        due("an image keeps no image: from(0)", x.from(0), 1);
        due("from(1)", x.from(1), 1);
    }

    /** What comes behind an image is nothing to it, and what comes behind from is nothing to it, either. */
    private static void imagesStay() {
        SleepyHelm x = new SleepyHelm();
        Ships.full(x);
        x.image(0);
        long kept = x.digest();
        for (int again = 0; again < 3; again++) {
            x.watch();
            x.feed(again);
            x.forget();
            x.seen(again, again);
            x.undo();
            x.undo();
            if (again == 1) {
                x.ship();
                x.hand(0, 1, 1);
                x.rock(7);
                Ships.watches(x, 9);
            }
            if (again == 2) {
                x.read();
            }
            due("from(0)", x.from(0), 1);
            due("digest() as kept", x.digest(), kept);
        }
    }

    /** "STATUS: how many calls were refused as BAD, NO, FULL"; "-1: another what (counts as BAD)". */
    private static void statusOfEachReason() {
        SleepyHelm x = new SleepyHelm();
        status("new", x, 0, 0, 0);
        x.rock(61);
        status("one BAD", x, 1, 0, 0);
        x.undo();
        status("one NO", x, 1, 1, 0);
        for (int r = 0; r <= 6; r++) {
            x.rock(r);
        }
        status("one FULL", x, 1, 1, 1);
        due("status(-1)", x.status(-1), -1);
        status("it counts as BAD", x, 2, 1, 1);
        due("status(3)", x.status(3), -1);
        status("it counts as BAD", x, 3, 1, 1);
        due("status(MIN)", x.status(Integer.MIN_VALUE), -1);
        due("status(MAX)", x.status(Integer.MAX_VALUE), -1);
        status("they count as BAD", x, 5, 1, 1);
    }

    /** NONE, -5, a FAULT, an answer of 0 and one below 0 are no refusals. */
    private static void whatIsNotRefused() {
        SleepyHelm x = new SleepyHelm();
        x.watch();
        x.now(2);
        x.then(0, 1);
        x.strikes();
        x.peas(9, 4, 9);
        x.peas(0, 4, 4);
        x.meet(9, 0, 0);
        x.meet(9, 0, 1);
        x.read();
        x.type('?');
        x.read();
        x.hand(PLAIN, 40, -3);
        x.seen(0, 9);
        x.look(0);
        x.nod(0);
        x.is(0);
        x.pulled(9);
        x.of(0, 2);
        Ships.watches(x, 2);
        x.now(0);
        x.then(1, 0);
        x.voyages(0, 1);
        x.forget();
        x.forget();
        x.clear();
        x.clear();
        x.digest();
        x.ship();
        x.ship();
        status("nothing was refused", x, 0, 0, 0);
    }

    /** "(where others are told they count as these)": -10, -10000 and -1 are BAD. */
    private static void answersToldOtherwiseCount() {
        SleepyHelm x = new SleepyHelm();
        due("of(0, 0)", x.of(0, 0), -10);
        status("of", x, 1, 0, 0);
        due("now(3)", x.now(3), -10000);
        status("now", x, 2, 0, 0);
        due("then(61, 0)", x.then(61, 0), -10000);
        status("then", x, 3, 0, 0);
        due("peas(61, 1, 0)", x.peas(61, 1, 0), -10);
        status("peas", x, 4, 0, 0);
        due("voyages(0, 61)", x.voyages(0, 61), -10000);
        status("voyages", x, 5, 0, 0);
        due("status(3)", x.status(3), -1);
        status("status", x, 6, 0, 0);
        due("part(2)", x.part(2), BAD);
        status("part", x, 7, 0, 0);
        due("count(7)", x.count(7), BAD);
        status("count", x, 8, 0, 0);
    }

    /** "THE FRACTION is 0 by 1 at first": it stays so until there are odds. */
    private static void fractionAtFirst() {
        SleepyHelm x = new SleepyHelm();
        x.odds(0, 5);
        due("odds of nobody: part(0)", x.part(0), 0);
        due("odds of nobody: part(1)", x.part(1), 1);
        x.hand(PLAIN, 1, 1);
        x.odds(0, 11);
        x.odds(0, -1);
        due("refused: part(0)", x.part(0), 0);
        due("refused: part(1)", x.part(1), 1);
        due("part(-1)", x.part(-1), BAD);
        due("part(2)", x.part(2), BAD);
        x.odds(0, 0);
        due("odds: part(0)", x.part(0), 1);
        due("odds: part(1)", x.part(1), 1);
    }

    /** "0 CREW, 1 ROCKS, 2 the WATCH, 3 who are FED, 4 SEEN, 5 that may be undone, 6 bytes of THE TEXT": each at its most. */
    private static void countsOfNothingAndAll() {
        SleepyHelm x = new SleepyHelm();
        counts("nothing", x, 0, 0, 0, 0, 0, 0, 0);
        Ships.type(x, "x".repeat(150));
        Ships.watches(x, 100);
        for (int h = 0; h <= 5; h++) {
            x.hand(h, h, h - 3);
            x.rock(h);
            x.seen(h, h);
        }
        x.watch();
        x.watch();
        for (int h = 0; h <= 5; h++) {
            x.feed(h);
        }
        counts("all", x, 6, 6, 102, 6, 6, 8, 150);
        due("count(-1)", x.count(-1), BAD);
        due("count(7)", x.count(7), BAD);
        counts("all, still", x, 6, 6, 102, 6, 6, 8, 150);
    }

    private static long folded(long... values) {
        long h = 1181;
        for (long v : values) {
            h = 31 * h + v;
        }
        return h;
    }

    /** All rows full, all at their edges: h goes round beyond 64 bits. */
    private static void digestOfAll() {
        SleepyHelm x = new SleepyHelm();
        due("new: digest()", x.digest(), folded(0, 0, 0, 0, 0, 0, 0, 0, 0, 1));
        int[] places = {-60, 60, 0, 59, -59, 1};
        int[] nods = {-3, 3, 0, -1, 1, 2};
        for (int k = 0; k <= 5; k++) {
            x.hand(k, k == 5 ? 40 : 0, nods[k]);
            x.rock(places[k]);
            x.seen(4 * k, places[5 - k]);
        }
        x.hand(0, 0, 0);
        x.rock(7);
        x.seen(7, 7);
        x.type(0);
        x.feed(0);
        x.feed(5);
        x.odds(0, 5);
        due("digest()", x.digest(), folded(6, 6, 0, 2, 6, 2, 1, 0,
            0, 0, -3, 1, 1, 0, 3, 0, 2, 0, 0, 0, 3, 0, -1, 0, 4, 0, 1, 0, 5, 40, 2, 1,
            -60, 60, 0, 59, -59, 1,
            0, 1, 4, -59, 8, 59, 12, 0, 16, 60, 20, -60, 0, 1));
        SleepyHelm cooks = new SleepyHelm();
        for (int h = 0; h <= 5; h++) {
            cooks.hand(COOK, 9, 0);
        }
        cooks.odds(5, 1);
        due("the greatest fraction: digest()", cooks.digest(), folded(6, 0, 0, 0, 0, 0, 0, 0,
            3, 9, 0, 0, 3, 9, 0, 0, 3, 9, 0, 0, 3, 9, 0, 0, 3, 9, 0, 0, 3, 9, 0, 0, 59049, 1000000));
    }

    /** Her PLACE, NODS, ROCKS and p may be below 0: v is added as it is. */
    private static void digestIsAsToldBehindRefusals() {
        SleepyHelm x = new SleepyHelm();
        x.hand(PLAIN, 9, -3);
        x.rock(-6);
        x.watch();
        x.watch();
        x.seen(2, -9);
        long due = folded(1, 1, 2, 0, 1, 2, 0, -6, 0, 1, -3, 0, -6, 2, -9, 0, 1);
        due("digest()", x.digest(), due);
        x.rock(-6);
        x.rock(99);
        x.feed(9);
        x.from(0);
        due("digest() behind refusals", x.digest(), due);
        due("digest() again", x.digest(), due);
    }
}
