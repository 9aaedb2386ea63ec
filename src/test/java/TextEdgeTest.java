/** The edges of "THE SHIP is told by a TEXT": what may stand, and each FAULT that is told, at its place. */
public final class TextEdgeTest {
    private static final int BAD = -2, FULL = -4;
    private static final String SIX_ROCKS = "rock 0;rock 1;rock 2;reef 1;reef 2;reef 3;";
    private static final String SIX_HANDS = "hand 0 9 1;lean 1 9 1;hand 2 9 1;lean 3 9 1;hand 4 9 1;lean 5 9 1;";

    private static final Check check = new Check();

    public static void main(String[] args) {
        atMost150Bytes();
        bytesThatMayCome();
        itemsAreEnded();
        shipOnceFirstOfAll();
        wordsThatAreNone();
        rockNumbers();
        handNumbers();
        figuresOfOneNumber();
        placesInWhichThereIsARock();
        aSeventhRock();
        aSeventhOfTheCrew();
        bytesThatBeginNone();
        blanksBetween();
        endsTooEarly();
        theFirstFaultCounts();
        faultsLeaveAll();
        readTakesThePlaceOfAll();
        aTextOfAllItsBytes();
        check.end();
    }

    private static void sailingWith(SleepyHelm x, String text) {
        Ships.sailing(x);
        x.clear();
        Ships.type(x, text);
    }

    /** -10 less the FAULT, and all stays: STATUS, too, for a fault is no refusal. */
    private static void fault(String text, int place) {
        new Twins(check, "\"" + text + "\"", x -> sailingWith(x, text)).asked(Call.of("read"), -10 - place);
    }

    private static void items(String text, int want) {
        SleepyHelm x = new SleepyHelm();
        sailingWith(x, text);
        int bad = x.status(0);
        check.due("\"" + text + "\": read()", x.read(), want);
        check.due("\"" + text + "\": status(0)", x.status(0), bad);
    }

    /** The text is read as the calls say it: first the rocks, then the crew as kind, tired, nods. */
    private static void readIs(String text, int items, int[] rocks, int[]... crew) {
        SleepyHelm x = new SleepyHelm();
        sailingWith(x, text);
        check.due("\"" + text + "\": read()", x.read(), items);
        SleepyHelm told = new SleepyHelm();
        sailingWith(told, text);
        told.ship();
        for (int place : rocks) {
            told.rock(place);
        }
        for (int[] h : crew) {
            told.hand(h[0], h[1], h[2]);
        }
        for (int what = 0; what <= 2; what++) {
            check.due("\"" + text + "\": status(" + what + ")", x.status(what), told.status(what));
        }
        check.holds("\"" + text + "\" is read as told by calls", Twins.whole(x).equals(Twins.whole(told)));
    }

    private static int[] rocks(int... places) {
        return places;
    }

    private static int[] hand(int kind, int tired, int nods) {
        return new int[] {kind, tired, nods};
    }

    /** "a TEXT (150 bytes at most)". */
    private static void atMost150Bytes() {
        SleepyHelm x = new SleepyHelm();
        for (int k = 1; k <= 150; k++) {
            check.due("byte " + k, x.type(32), k);
        }
        for (int k = 0; k < 3; k++) {
            check.due("byte 151", x.type(';'), FULL);
        }
        check.due("count(6)", x.count(6), 150);
        check.due("read() of blanks", x.read(), -160);
        check.due("clear()", x.clear(), 150);
        check.due("byte 1 again", x.type('s'), 1);
        check.due("clear()", x.clear(), 1);
        check.due("clear() of none", x.clear(), 0);
    }

    /** "A byte (0 .. 127) comes behind THE TEXT". */
    private static void bytesThatMayCome() {
        SleepyHelm x = new SleepyHelm();
        for (int c = 0; c <= 127; c++) {
            check.due("type(" + c + ")", x.type(c), c + 1);
        }
        check.due("type(-1)", x.type(-1), BAD);
        check.due("type(128)", x.type(128), BAD);
        check.due("count(6)", x.count(6), 128);
    }

    /** "ITEMS, each ended by ;". */
    private static void itemsAreEnded() {
        items("ship;", 1);
        items("ship;rock 1;", 2);
        items("ship;hand 0 0 0;", 2);
        fault("ship", 4);
        fault("ship rock 1;", 5);
        fault("ship;rock 1", 11);
        fault("ship;rock 1 rock 2;", 12);
        fault("ship;rock 1 hand 0 0 0;", 12);
        fault("ship;hand 0 0 0", 15);
        fault("ship;hand 0 0 0 lean 0 0 0;", 16);
        fault("ship;rock 1 2;", 12);
        fault("ship;hand 0 0 0 0;", 16);
        fault(";", 0);
        fault("ship;;", 5);
        fault("ship; ;", 6);
        fault("ship;rock 1;;", 12);
        fault("ship 5;", 5);
    }

    /** "ship (once, first of all)", "ship again, anything ahead of it". */
    private static void shipOnceFirstOfAll() {
        fault("ship;ship;", 5);
        fault("ship;rock 1;ship;", 12);
        fault("ship;hand 0 0 0; ship", 17);
        fault("ship ship;", 5);
        fault("rock 1;ship;", 0);
        fault(" reef 1;ship;", 1);
        fault("hand 0 0 0;ship;", 0);
        fault("lean 0 0 0;ship;", 0);
        fault("1 ship;", 0);
        fault("; ship;", 0);
        fault("x ship;", 0);
        fault("-ship;", 0);
    }

    /** "a word that is none": one letter less, more or other, at each of its ends. */
    private static void wordsThatAreNone() {
        for (String word : new String[] {"shi", "hip", "ships", "sship", "shap", "chip", "s", "shiprock", "rock"}) {
            fault(word + ";", 0);
        }
        String[] none = {"roc", "ock", "rocks", "rrock", "rack", "lock", "ree", "eef", "reefs", "rreef", "reed", "beef",
            "han", "and", "hands", "hhand", "hang", "band", "lea", "ean", "leans", "llean", "leak", "mean", "handlean"};
        for (String word : none) {
            fault("ship;" + word + " 1 1 1;", 5);
        }
        // a and z are the first and the last letter: a word goes on with them.
        for (String letter : new String[] {"a", "z"}) {
            fault("ship" + letter + ";", 0);
            fault(letter + "ship;", 0);
            fault("ship;rock" + letter + " 1;", 5);
            fault("ship;" + letter + "lean 1 1 1;", 5);
            fault("ship;rock 1" + letter + ";", 11);
        }
        fault("ship;rock one;", 10);
        fault("ship;hand a 1 1;", 10);
        fault("ship;hand 1 a 1;", 12);
        fault("ship;hand 1 1 a;", 14);
        fault("ship;rock rock 1;", 10);
        fault("ship;hand 1 hand 1;", 12);
    }

    /** "rock n, reef n (0 .. 60: a ROCK at n, at n less than nothing)". */
    private static void rockNumbers() {
        readIs("ship;rock 0;rock 60;", 3, rocks(0, 60));
        readIs("ship;reef 0;reef 60;", 3, rocks(0, -60));
        readIs("ship;reef 1;rock 1;", 3, rocks(-1, 1));
        for (String n : new String[] {"61", "62", "99"}) {
            fault("ship;rock " + n + ";", 10);
            fault("ship;reef " + n + ";", 10);
        }
        fault("ship;rock -1;", 10);
        fault("ship;rock;", 9);
        fault("ship;reef ;", 10);
    }

    /** "hand KIND TIRED n, lean KIND TIRED n (0 .. 3: NODS n, n less than nothing)". */
    private static void handNumbers() {
        readIs("ship;hand 0 0 0;hand 5 0 0;hand 0 40 0;hand 0 0 3;", 5, rocks(), hand(0, 0, 0), hand(5, 0, 0),
            hand(0, 40, 0), hand(0, 0, 3));
        readIs("ship;lean 0 0 0;lean 5 0 0;lean 0 40 0;lean 0 0 3;", 5, rocks(), hand(0, 0, 0), hand(5, 0, 0),
            hand(0, 40, 0), hand(0, 0, -3));
        readIs("ship;lean 2 17 2;hand 3 18 1;", 3, rocks(), hand(2, 17, -2), hand(3, 18, 1));
        for (String word : new String[] {"hand", "lean"}) {
            fault("ship;" + word + " 6 40 3;", 10);
            fault("ship;" + word + " 99 40 3;", 10);
            fault("ship;" + word + " 5 41 3;", 12);
            fault("ship;" + word + " 5 99 3;", 12);
            fault("ship;" + word + " 5 40 4;", 15);
            fault("ship;" + word + " 5 40 99;", 15);
            fault("ship;" + word + ";", 9);
            fault("ship;" + word + " 5;", 11);
            fault("ship;" + word + " 5 40;", 14);
            fault("ship;" + word + " -1 0 0;", 10);
            fault("ship;" + word + " 0 -1 0;", 12);
            fault("ship;" + word + " 0 0 -1;", 14);
        }
    }

    /** "figures (1 or 2 are one number)", "a third figure's number". */
    private static void figuresOfOneNumber() {
        readIs("ship;rock 7;rock 08;rock 00;", 4, rocks(7, 8, 0));
        readIs("ship;hand 05 09 03;lean 00 00 00;", 3, rocks(), hand(5, 9, 3), hand(0, 0, 0));
        fault("ship;rock 007;", 10);
        fault("ship;rock 000;", 10);
        fault("ship;rock 0000;", 10);
        fault("ship;rock 600;", 10);
        fault("ship;reef 100;", 10);
        fault("ship;hand 000 0 0;", 10);
        fault("ship;hand 0 040 0;", 12);
        fault("ship;hand 0 40 003;", 15);
        fault("ship;hand 0400;", 10);
        fault("ship;hand 04 00;", 15);
        fault("ship;rock 4294967296;", 10);
        fault("ship;rock 18446744073709551621;", 10);
        fault("ship;rock " + "0".repeat(138) + "1;", 10);
        fault("ship 007;", 5);
    }

    /** "also a PLACE in which there is a ROCK": at its number. */
    private static void placesInWhichThereIsARock() {
        fault("ship;rock 5;rock 5;", 17);
        fault("ship;rock 5;rock 05;", 17);
        fault("ship;reef 5;reef 5;", 17);
        fault("ship;rock 0;reef 0;", 17);
        fault("ship;reef 00;rock 0;", 18);
        fault("ship;rock 60;reef 60;rock 60;", 26);
        items("ship;rock 5;reef 5;", 3);
        // There is one at 3 and at -60 where she sails now: the text's ship has none as yet.
        items("ship;rock 3;reef 60;", 3);
    }

    /** "a 7th ROCK": at its word, whatever its number is. */
    private static void aSeventhRock() {
        readIs("ship;" + SIX_ROCKS, 7, rocks(0, 1, 2, -1, -2, -3));
        fault("ship;" + SIX_ROCKS + "rock 9;", 47);
        fault("ship;" + SIX_ROCKS + "reef 9;", 47);
        fault("ship;" + SIX_ROCKS + "rock 0;", 47);
        fault("ship;" + SIX_ROCKS + "rock 61;", 47);
        fault("ship;" + SIX_ROCKS + "  rock", 49);
        fault("ship;" + SIX_ROCKS + "hand 0 0 0;rock 9;", 58);
        items("ship;" + SIX_ROCKS + "hand 0 0 0;", 8);
    }

    /** "a 7th of the CREW at its word". */
    private static void aSeventhOfTheCrew() {
        readIs("ship;" + SIX_HANDS, 7, rocks(), hand(0, 9, 1), hand(1, 9, -1), hand(2, 9, 1), hand(3, 9, -1),
            hand(4, 9, 1), hand(5, 9, -1));
        fault("ship;" + SIX_HANDS + "hand 0 0 0;", 71);
        fault("ship;" + SIX_HANDS + "lean 0 0 0;", 71);
        fault("ship;" + SIX_HANDS + "hand 9 9 9;", 71);
        fault("ship;" + SIX_HANDS + " lean", 72);
        fault("ship;" + SIX_HANDS + "rock 1;hand 0 0 0;", 78);
        items("ship;" + SIX_HANDS + "rock 1;", 8);
    }

    /** "a byte that begins none": all but a .. z, 0 .. 9, ; and the blank; within words and figures, too. */
    private static void bytesThatBeginNone() {
        for (int c = 0; c <= 127; c++) {
            boolean begins = c >= 'a' && c <= 'z' || c >= '0' && c <= '9' || c == ';' || c == ' ';
            if (!begins) {
                fault((char) c + "ship;", 0);
                fault("ship" + (char) c + ";", 4);
                fault("ship;rock" + (char) c + "5;", 9);
                fault("ship;rock 5" + (char) c, 11);
                fault("ship;rock 5;" + (char) c, 12);
            }
        }
        fault("Ship;", 0);
        fault("sHip;", 0);
        fault("shi-p;", 0);
        fault("ship;rOck 5;", 5);
        fault("ship;rock 5-6;", 11);
    }

    /** "blanks (32) between": as many as one likes, none where two tokens do not run together. */
    private static void blanksBetween() {
        readIs("ship;rock5;hand0 1 2;", 3, rocks(5), hand(0, 1, 2));
        readIs("   ship   ;   rock   5   ;   hand   0   1   2   ;   ", 3, rocks(5), hand(0, 1, 2));
        items("ship; ", 1);
        items(" ship;", 1);
        fault("sh ip;", 0);
        fault("ship;ro ck 5;", 5);
        fault("ship;rock 1 1;", 12);
        fault("ship;hand 01 2;", 14);
        fault("ship;hand 0 12;", 14);
        fault("ship;rock 5rock 6;", 11);
    }

    /** "the TEXT's length, if it ends too early (an empty one, too)". */
    private static void endsTooEarly() {
        fault("", 0);
        fault(" ", 1);
        fault("  ", 2);
        fault("ship ", 5);
        fault("ship;rock", 9);
        fault("ship;rock ", 10);
        fault("ship;reef 60", 12);
        fault("ship;reef 60 ", 13);
        fault("ship;hand", 9);
        fault("ship;hand 0", 11);
        fault("ship;hand 0 ", 12);
        fault("ship;lean 0 40", 14);
        fault("ship;lean 0 40 3", 16);
        fault("ship;lean 0 40 3  ", 18);
        fault("ship;" + " ".repeat(141) + "rock", 150);
        fault("ship;" + " ".repeat(143) + "ro", 148);
        fault(" ".repeat(146) + "ship", 150);
        fault(" ".repeat(150), 150);
    }

    /** "the first TOKEN that can not stand there". */
    private static void theFirstFaultCounts() {
        fault("ship;rock 61;rock 62;", 10);
        fault("ship;hand 6 41 4;", 10);
        fault("ship;hand 5 41 4;", 12);
        fault("ship;rock 5;rock 5;ship;", 17);
        fault("ship;rock 61 ", 10);
        fault("ship;x", 5);
        fault("ship;rock x", 10);
        fault("ship;rock 61", 10);
        fault("ship;rock 1;?", 12);
    }

    /** "-10 less the FAULT: all stays": also what was there of a ship that is full, or none. */
    private static void faultsLeaveAll() {
        String text = "ship;rock 9;lean 5 40 3;rock 9;";
        new Twins(check, "a new one", x -> Ships.type(x, text)).asked(Call.of("read"), -10 - 29);
        new Twins(check, "an empty text", Ships::empty).asked(Call.of("read"), -10);
        new Twins(check, "a full ship", x -> {
            Ships.full(x);
            x.clear();
            Ships.type(x, text);
        }).asked(Call.of("read"), -10 - 29);
    }

    /** "takes the place of all but IMAGES, THE TEXT, THE FRACTION, STATUS (PLACE, WATCH 0, SEEN none; nothing to undo)". */
    private static void readTakesThePlaceOfAll() {
        readIs("ship;", 1, rocks());
        SleepyHelm x = new SleepyHelm();
        Ships.full(x);
        long above = x.part(0);
        long below = x.part(1);
        check.due("full: read()", x.read(), 3);
        int[] counts = {1, 1, 0, 0, 0, 0, 150};
        for (int what = 0; what <= 6; what++) {
            check.due("read: count(" + what + ")", x.count(what), counts[what]);
        }
        check.due("read: now(0)", x.now(0), 0);
        check.due("read: of(0, 3)", x.of(0, 3), 0);
        check.due("read: undo()", x.undo(), -3);
        check.due("read: rock(10), one of the former ship", x.rock(10), 2);
        check.due("read: the fraction stays: part(0)", x.part(0), above);
        check.due("read: the fraction stays: part(1)", x.part(1), below);
        check.due("read: the image stays", x.from(0), 1);
        check.due("read: the image's crew", x.count(0), 6);
        check.due("read: the image's watch", x.count(2), 7);
        check.due("read again", x.read(), 3);
    }

    /** 150 bytes, the last of them the ; that ends the last item. */
    private static void aTextOfAllItsBytes() {
        String items = "ship;" + SIX_ROCKS + SIX_HANDS;
        String blanks = " ".repeat(150 - items.length());
        String text = items.substring(0, items.length() - 1) + blanks + ";";
        check.due("the text's length", text.length(), 150);
        readIs(text, 13, rocks(0, 1, 2, -1, -2, -3), hand(0, 9, 1), hand(1, 9, -1), hand(2, 9, 1), hand(3, 9, -1),
            hand(4, 9, 1), hand(5, 9, -1));
        fault(text.substring(0, 149), 149);
        fault(text.substring(0, 149) + "1", 149);
        fault(text.substring(0, 149) + "?", 149);
    }
}
