import java.util.Random;

/** Runs of random calls, each answer held against the model's; the same runs every time. */
public final class ModelTest {
    private static final int RUNS = 1500;
    private static final int CALLS = 512;
    private static final int[] EDGES = {Integer.MIN_VALUE, -10000, -62, -61, -11, -5, -4, -3, -2, -1, 0, 1, 2, 3, 4, 5,
        6, 7, 9, 10, 11, 20, 21, 40, 41, 59, 60, 61, 127, 128, 999999, 1000000, Integer.MAX_VALUE};

    private final Check check;
    private final int run;
    private final Random random;
    private final SleepyHelm helm = new SleepyHelm();
    private final Model model = new Model();
    private int calls = 0;

    private ModelTest(Check check, int run) {
        this.check = check;
        this.run = run;
        this.random = new Random(run);
    }

    public static void main(String[] args) {
        Check check = new Check();
        for (int run = 0; run < RUNS && check.wrong() < 20; run++) {
            new ModelTest(check, run).go();
        }
        check.end();
    }

    private void go() {
        int style = random.nextInt(4);
        int wrongBefore = check.wrong();
        if (style == 0) {
            typeShip();
        } else if (style < 3) {
            manHer();
        }
        while (calls < CALLS - 160 && check.wrong() == wrongBefore) {
            step(style);
            if (random.nextInt(8) == 0) {
                due("digest()", helm.digest(), model.digest());
            }
        }
        for (int what = 0; what <= 2; what++) {
            due("status(" + what + ")", helm.status(what), model.status(what));
        }
        due("digest()", helm.digest(), model.digest());
    }

    private void due(String call, long got, long want) {
        calls++;
        check.due("run " + run + ", call " + calls + ": " + call, got, want);
    }

    private int within(int low, int high) {
        return low + random.nextInt(high - low + 1);
    }

    /** Mostly a number as told; now and then one at an edge, or far off. */
    private int number(int low, int high) {
        int dice = random.nextInt(40);
        if (dice == 0) return EDGES[random.nextInt(EDGES.length)];
        if (dice == 1) return random.nextBoolean() ? low - 1 : high + 1;
        if (dice < 6) return random.nextBoolean() ? low : high;
        return within(low, high);
    }

    private int anyHand() {
        return number(0, Math.max(0, model.all.sailing.crew.size() - 1));
    }

    private int near() {
        int place = Math.max(-60, Math.min(60, model.all.sailing.place));
        return number(Math.max(-60, place - 8), Math.min(60, place + 8));
    }

    private void manHer() {
        int crew = within(0, 6);
        boolean close = random.nextBoolean();
        for (int h = 0; h < crew; h++) {
            hand(number(0, 5), close ? within(8, 14) : number(0, 40), number(-3, 3));
        }
        int rocks = within(0, 6);
        for (int r = 0; r < rocks; r++) {
            rock(random.nextBoolean() ? within(-9, 9) : number(-60, 60));
        }
    }

    private void hand(int kind, int tired, int nods) {
        due("hand(" + kind + ", " + tired + ", " + nods + ")", helm.hand(kind, tired, nods), model.hand(kind, tired, nods));
    }

    private void rock(int place) {
        due("rock(" + place + ")", helm.rock(place), model.rock(place));
    }

    private void type(int c) {
        due("type(" + c + ")", helm.type(c), model.type(c));
    }

    private void typeShip() {
        due("clear()", helm.clear(), model.clear());
        StringBuilder text = new StringBuilder("ship;");
        int items = within(0, 13);
        for (int k = 0; k < items; k++) {
            text.append(random.nextInt(3) == 0 ? " " : "");
            if (random.nextBoolean()) {
                text.append(random.nextBoolean() ? "rock " : "reef").append(within(0, random.nextInt(9) == 0 ? 130 : 60));
            } else {
                text.append(random.nextBoolean() ? "hand" : "lean ").append(within(0, random.nextInt(9) == 0 ? 7 : 5));
                text.append(' ').append(within(0, random.nextInt(9) == 0 ? 45 : 40)).append(' ');
                text.append(within(0, random.nextInt(9) == 0 ? 5 : 3));
            }
            text.append(random.nextInt(5) == 0 ? " ;" : ";");
        }
        String signs = " ;;0123456789shiprockeflandABZ-\t`{/:";
        int spoilt = random.nextInt(3);
        for (int k = 0; k < spoilt && text.length() > 0; k++) {
            int at = random.nextInt(text.length());
            switch (random.nextInt(4)) {
                case 0: text.deleteCharAt(at); break;
                case 1: text.insert(at, signs.charAt(random.nextInt(signs.length()))); break;
                case 2: text.setCharAt(at, signs.charAt(random.nextInt(signs.length()))); break;
                default: text.setLength(at);
            }
        }
        for (int k = 0; k < text.length(); k++) {
            type(text.charAt(k));
        }
        due("read() of \"" + model.text + "\"", helm.read(), model.read());
        due("digest()", helm.digest(), model.digest());
    }

    private void step(int style) {
        switch (random.nextInt(12)) {
            case 0: buildStep(style); break;
            case 1: case 2: case 3: sailStep(); break;
            case 4: case 5: case 6: comingStep(); break;
            case 7: case 8: case 9: seenStep(); break;
            default: otherStep(style);
        }
    }

    private void buildStep(int style) {
        int dice = random.nextInt(20);
        if (dice == 0) {
            due("ship()", helm.ship(), model.ship());
        } else if (dice < 6) {
            rock(near());
        } else if (dice < 9) {
            hand(number(0, 5), number(0, 40), number(-3, 3));
        } else if (dice < 10 && style == 0) {
            typeShip();
        } else if (dice < 12) {
            type(number(0, 127));
        } else if (dice < 13) {
            due("read()", helm.read(), model.read());
        }
    }

    private void sailStep() {
        switch (random.nextInt(8)) {
            case 0: case 1: case 2: {
                int h = anyHand();
                due("feed(" + h + ")", helm.feed(h), model.feed(h));
                break;
            }
            case 3: case 4: case 5:
                due("watch()", helm.watch(), model.watch());
                break;
            case 6:
                if (random.nextBoolean()) due("undo()", helm.undo(), model.undo());
                break;
            default: {
                int h = anyHand();
                int what = number(0, 4);
                due("of(" + h + ", " + what + ")", helm.of(h, what), model.of(h, what));
            }
        }
    }

    private void comingStep() {
        switch (random.nextInt(5)) {
            case 0: {
                int m = number(0, 60);
                int what = number(0, 1);
                due("then(" + m + ", " + what + ")", helm.then(m, what), model.then(m, what));
                break;
            }
            case 1:
                due("strikes()", helm.strikes(), model.strikes());
                break;
            case 2: {
                int p = near();
                int n = number(1, random.nextInt(4) == 0 ? 4 : 3);
                int i = number(-1, 4);
                due("peas(" + p + ", " + n + ", " + i + ")", helm.peas(p, n, i), model.peas(p, n, i));
                break;
            }
            case 3: {
                int h = anyHand();
                due("canNot(" + h + ")", helm.canNot(h), model.canNot(h));
                break;
            }
            default: {
                int a = anyHand();
                int b = anyHand();
                due("eat(" + a + ", " + b + ")", helm.eat(a, b), model.eat(a, b));
            }
        }
    }

    private void seenStep() {
        int h = anyHand();
        switch (random.nextInt(8)) {
            case 0: lookOut(); break;
            case 1:
                if (random.nextInt(3) == 0) due("forget()", helm.forget(), model.forget());
                break;
            case 2: due("nod(" + h + ")", helm.nod(h), model.nod(h)); break;
            case 3: due("is(" + h + ")", helm.is(h), model.is(h)); break;
            case 4: due("look(" + h + ")", helm.look(h), model.look(h)); break;
            case 5: case 6: {
                int b = number(-9, 9);
                due("pulled(" + b + ")", helm.pulled(b), model.pulled(b));
                break;
            }
            default: {
                int p = near();
                int b = number(-3, 3);
                int what = number(0, 1);
                due("meet(" + p + ", " + b + ", " + what + ")", helm.meet(p, b, what), model.meet(p, b, what));
            }
        }
    }

    /** Sees what she would see by another nod, another kind or a pull, so that answers are seldom empty. */
    private void lookOut() {
        int m = number(0, 20);
        int p = near();
        if (m >= 0 && m <= 20 && random.nextInt(4) != 0) {
            Model.Sailing s = model.all.sailing.copy();
            int trick = random.nextInt(4);
            if (trick > 1 && !s.crew.isEmpty()) {
                Model.Hand h = s.crew.get(random.nextInt(s.crew.size()));
                if (trick == 2) h.nods = within(-3, 3); else h.kind = within(0, 5);
            }
            p = s.behind(m).place + (trick == 1 ? within(-2, 2) : 0);
        }
        due("seen(" + m + ", " + p + ")", helm.seen(m, p), model.seen(m, p));
    }

    private void otherStep(int style) {
        switch (random.nextInt(7)) {
            case 0: {
                int h = anyHand();
                int c = number(0, 10);
                due("odds(" + h + ", " + c + ")", helm.odds(h, c), model.odds(h, c));
                int what = number(0, 1);
                due("part(" + what + ")", helm.part(what), model.part(what));
                break;
            }
            case 1: {
                int seed = number(0, 999999);
                int n = number(0, 60);
                due("voyages(" + seed + ", " + n + ")", helm.voyages(seed, n), model.voyages(seed, n));
                break;
            }
            case 2: {
                int i = number(0, 1);
                due("image(" + i + ")", helm.image(i), model.image(i));
                break;
            }
            case 3: {
                int i = number(0, 1);
                if (random.nextInt(3) == 0) due("from(" + i + ")", helm.from(i), model.from(i));
                break;
            }
            case 4: {
                int what = number(0, 2);
                due("status(" + what + ")", helm.status(what), model.status(what));
                break;
            }
            case 5: {
                int what = number(0, 6);
                due("count(" + what + ")", helm.count(what), model.count(what));
                break;
            }
            default: {
                int what = number(0, 2);
                due("now(" + what + ")", helm.now(what), model.now(what));
            }
        }
    }
}
