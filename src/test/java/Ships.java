/** Ships that the tests of the edges share. */
final class Ships {
    static final int PLAIN = 0, COLD = 1, TALKER = 2, COOK = 3, MOONSTRUCK = 4, BOY = 5;

    private Ships() {
    }

    static void empty(SleepyHelm x) {
    }

    static void type(SleepyHelm x, String text) {
        for (int k = 0; k < text.length(); k++) {
            x.type(text.charAt(k));
        }
    }

    static void watches(SleepyHelm x, int n) {
        for (int w = 0; w < n; w++) {
            x.watch();
        }
    }

    /**
     * Five plain ones of 40. Each steers once in five watches (4 less) and does not in the other four (1 more), so that
     * all are 40 again: w by 5 left over steers in watch w, for ever, whoever is fed.
     */
    static void five(SleepyHelm x, int... nods) {
        for (int h = 0; h < 5; h++) {
            x.hand(PLAIN, 40, nods[h % nods.length]);
        }
    }

    /** There is some of everything, and room for more: three of the crew, image 0 kept, image 1 not. */
    static void sailing(SleepyHelm x) {
        type(x, "ship;reef 7;lean 1 30 2;");
        x.hand(COOK, 12, 2);
        x.hand(TALKER, 20, -3);
        x.hand(MOONSTRUCK, 9, 1);
        x.rock(3);
        x.rock(-60);
        x.seen(0, 0);
        x.seen(20, -5);
        x.odds(0, 3);
        x.feed(2);
        x.image(0);
        x.watch();
        x.feed(1);
        x.watch();
        x.rock(3);
        x.of(9, 9);
        x.feed(0);
    }

    /** There is no room for anything more: crew, rocks, what was seen, the text, what may be undone. */
    static void full(SleepyHelm x) {
        String text = "ship;rock 9;lean 5 40 3;";
        type(x, text + " ".repeat(150 - text.length()));
        for (int h = 0; h < 6; h++) {
            x.hand(h, 20 + 3 * h, h - 3);
            x.rock(10 * h - 20);
            x.seen(4 * h, 25 - 10 * h);
        }
        x.odds(3, 7);
        watches(x, 3);
        x.image(1);
        watches(x, 4);
        x.image(0);
        watches(x, 2);
        x.feed(5);
        x.feed(0);
    }

    /** She has never gone: nobody is fed, and nothing may be undone; image 1 is kept, image 0 not. */
    static void inHarbour(SleepyHelm x) {
        type(x, "ship;hand 0 1 1;");
        five(x, 1, -2, 3);
        x.rock(5);
        x.seen(3, 3);
        x.odds(1, 4);
        x.image(1);
    }
}
