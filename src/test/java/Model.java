import java.math.BigInteger;
import java.util.ArrayDeque;
import java.util.ArrayList;
import java.util.Arrays;
import java.util.Deque;
import java.util.HashMap;
import java.util.HashSet;
import java.util.List;
import java.util.Map;
import java.util.Set;
import java.util.regex.Matcher;
import java.util.regex.Pattern;

/**
 * The document said once more, in the slowest and plainest way: every set, every way, every nod is
 * tried out. It shares no code with the class and none of its short cuts.
 */
final class Model {
    static final int NONE = -1, BAD = -2, NO = -3, FULL = -4;

    static final class Hand {
        int kind;
        int tired;
        int nods;
        boolean fed;

        Hand(int kind, int tired, int nods, boolean fed) {
            this.kind = kind;
            this.tired = tired;
            this.nods = nods;
            this.fed = fed;
        }

        Hand copy() {
            return new Hand(kind, tired, nods, fed);
        }

        int sleepy(int w) {
            switch (kind) {
                case 0: return tired;
                case 1: return w % 4 == 0 ? Math.max(0, tired - 3) : tired;
                case 2: return fed ? tired : tired / 2;
                case 3: return fed ? tired + tired : tired;
                case 4: return (w % 4 == 0 ? Math.max(0, tired - 3) : tired) + (w % 7 == 3 ? 5 : 0);
                default: return 0;
            }
        }
    }

    static final int[] TIRES = {1, 1, 2, 1, 1, 0};

    static final class Sailing {
        int place = 0;
        int watch = 0;
        List<Hand> crew = new ArrayList<>();

        Sailing copy() {
            Sailing s = new Sailing();
            s.place = place;
            s.watch = watch;
            for (Hand h : crew) {
                s.crew.add(h.copy());
            }
            return s;
        }

        int steers() {
            int who = NONE;
            for (int i = 0; i < crew.size(); i++) {
                int s = crew.get(i).sleepy(watch);
                if (s > 0 && (who == NONE || s > crew.get(who).sleepy(watch))) {
                    who = i;
                }
            }
            return who;
        }

        int goWatch() {
            int who = steers();
            for (int i = 0; i < crew.size(); i++) {
                Hand h = crew.get(i);
                if (i == who) {
                    place += h.nods;
                    h.tired = Math.max(0, h.tired - 4);
                } else {
                    h.tired = Math.min(99, h.tired + TIRES[h.kind]);
                }
                h.fed = false;
            }
            watch++;
            return who;
        }

        void feedJust(int set) {
            for (int i = 0; i < crew.size(); i++) {
                crew.get(i).fed = (set & 1 << i) != 0;
            }
        }

        Sailing behind(int m) {
            Sailing s = copy();
            for (int k = 0; k < m; k++) {
                s.goWatch();
            }
            return s;
        }
    }

    static final class All {
        Sailing sailing = new Sailing();
        List<Integer> rocks = new ArrayList<>();
        List<int[]> seen = new ArrayList<>();
        Deque<Sailing> undo = new ArrayDeque<>();

        All copy() {
            All a = new All();
            a.sailing = sailing.copy();
            a.rocks.addAll(rocks);
            a.seen.addAll(seen);
            for (Sailing s : undo) {
                a.undo.addLast(s.copy());
            }
            return a;
        }
    }

    All all = new All();
    final All[] images = new All[2];
    String text = "";
    BigInteger above = BigInteger.ZERO;
    BigInteger below = BigInteger.ONE;
    final int[] refused = new int[3];

    private int bad(int answer) {
        refused[0]++;
        return answer;
    }

    private int no() {
        refused[1]++;
        return NO;
    }

    private int full() {
        refused[2]++;
        return FULL;
    }

    private static boolean in(int n, int low, int high) {
        return low <= n && n <= high;
    }

    private boolean notHand(int h) {
        return !in(h, 0, all.sailing.crew.size() - 1);
    }

    int ship() {
        int had = all.sailing.crew.size();
        all = new All();
        return had;
    }

    int rock(int place) {
        if (!in(place, -60, 60)) return bad(BAD);
        if (all.rocks.contains(place)) return no();
        if (all.rocks.size() == 6) return full();
        all.rocks.add(place);
        return all.rocks.size();
    }

    int hand(int kind, int tired, int nods) {
        if (!in(kind, 0, 5) || !in(tired, 0, 40) || !in(nods, -3, 3)) return bad(BAD);
        if (all.sailing.crew.size() == 6) return full();
        all.sailing.crew.add(new Hand(kind, tired, nods, false));
        all.undo.clear();
        return all.sailing.crew.size() - 1;
    }

    int type(int c) {
        if (!in(c, 0, 127)) return bad(BAD);
        if (text.length() == 150) return full();
        text += (char) c;
        return text.length();
    }

    int clear() {
        int had = text.length();
        text = "";
        return had;
    }

    private static final Pattern TOKEN = Pattern.compile("[a-z]+|[0-9]+|.", Pattern.DOTALL);
    private static final Map<String, int[]> LIMITS = new HashMap<>();

    static {
        LIMITS.put("ship", new int[] {});
        LIMITS.put("rock", new int[] {60});
        LIMITS.put("reef", new int[] {60});
        LIMITS.put("hand", new int[] {5, 40, 3});
        LIMITS.put("lean", new int[] {5, 40, 3});
    }

    int read() {
        List<String> tokens = new ArrayList<>();
        List<Integer> starts = new ArrayList<>();
        Matcher matcher = TOKEN.matcher(text);
        while (matcher.find()) {
            if (!matcher.group().equals(" ")) {
                tokens.add(matcher.group());
                starts.add(matcher.start());
            }
        }
        All told = new All();
        Set<Integer> places = new HashSet<>();
        int items = 0;
        int t = 0;
        do {
            if (t == tokens.size()) return -10 - text.length();
            String word = tokens.get(t);
            boolean isRock = word.equals("rock") || word.equals("reef");
            boolean isHand = word.equals("hand") || word.equals("lean");
            if (!LIMITS.containsKey(word) || word.equals("ship") != (items == 0)
                || isRock && told.rocks.size() == 6 || isHand && told.sailing.crew.size() == 6) {
                return -10 - starts.get(t);
            }
            t++;
            int[] limits = LIMITS.get(word);
            int[] numbers = new int[limits.length];
            for (int k = 0; k < limits.length; k++, t++) {
                if (t == tokens.size()) return -10 - text.length();
                String figures = tokens.get(t);
                if (!figures.matches("[0-9][0-9]?")) return -10 - starts.get(t);
                numbers[k] = Integer.parseInt(figures);
                if (numbers[k] > limits[k]) return -10 - starts.get(t);
                if (isRock && !places.add(word.equals("rock") ? numbers[k] : -numbers[k])) return -10 - starts.get(t);
            }
            if (t == tokens.size()) return -10 - text.length();
            if (!tokens.get(t).equals(";")) return -10 - starts.get(t);
            t++;
            items++;
            if (isRock) told.rocks.add(word.equals("rock") ? numbers[0] : -numbers[0]);
            if (isHand) {
                int nods = word.equals("hand") ? numbers[2] : -numbers[2];
                told.sailing.crew.add(new Hand(numbers[0], numbers[1], nods, false));
            }
        } while (t < tokens.size());
        all = told;
        return items;
    }

    private void keepForUndo() {
        all.undo.addLast(all.sailing.copy());
        if (all.undo.size() > 8) {
            all.undo.removeFirst();
        }
    }

    int feed(int hand) {
        if (notHand(hand)) return bad(BAD);
        if (all.sailing.crew.get(hand).fed) return no();
        keepForUndo();
        all.sailing.crew.get(hand).fed = true;
        return 1;
    }

    int watch() {
        keepForUndo();
        return all.sailing.goWatch();
    }

    int undo() {
        if (all.undo.isEmpty()) return no();
        all.sailing = all.undo.removeLast();
        return all.sailing.watch;
    }

    int of(int hand, int what) {
        if (notHand(hand) || !in(what, 0, 4)) return bad(-10);
        Hand h = all.sailing.crew.get(hand);
        return new int[] {h.kind, h.tired, h.nods, h.fed ? 1 : 0, h.sleepy(all.sailing.watch)}[what];
    }

    int now(int what) {
        if (!in(what, 0, 2)) return bad(-10000);
        Sailing s = all.sailing;
        return new int[] {s.place, all.rocks.contains(s.place) ? 1 : 0, s.steers()}[what];
    }

    int then(int m, int what) {
        if (!in(m, 0, 60) || !in(what, 0, 1)) return bad(-10000);
        Sailing s = all.sailing.behind(m);
        return what == 0 ? s.place : s.steers();
    }

    int strikes() {
        for (int m = 1; m <= 60; m++) {
            if (all.rocks.contains(all.sailing.behind(m).place)) return m;
        }
        return NONE;
    }

    int peas(int p, int n, int i) {
        if (!in(p, -60, 60) || !in(n, 1, 4) || i < -1) return bad(-10);
        int choices = all.sailing.crew.size() + 1;
        int ways = 1;
        for (int k = 0; k < n; k++) {
            ways *= choices;
        }
        int fewest = Integer.MAX_VALUE;
        int[] first = null;
        for (int way = 0; way < ways; way++) {
            int[] who = new int[n];
            int rest = way;
            for (int k = n - 1; k >= 0; k--) {
                who[k] = rest % choices - 1;
                rest /= choices;
            }
            Sailing s = all.sailing.copy();
            int served = 0;
            for (int h : who) {
                if (h >= 0) {
                    s.crew.get(h).fed = true;
                    served++;
                }
                s.goWatch();
            }
            if (s.place == p && served < fewest) {
                fewest = served;
                first = who;
            }
        }
        if (first == null) return NONE;
        if (i == NONE) return fewest;
        if (i >= n) return -5;
        return first[i] < 0 ? 6 : first[i];
    }

    int canNot(int hand) {
        if (notHand(hand)) return bad(BAD);
        int bits = 0;
        for (int m = 0; m < 8; m++) {
            Sailing s = all.sailing.behind(m);
            boolean can = false;
            for (int set = 0; set < 1 << s.crew.size(); set++) {
                s.feedJust(set);
                can |= s.steers() == hand;
            }
            if (!can) bits |= 1 << m;
        }
        return bits;
    }

    int eat(int a, int b) {
        if (notHand(a) || notHand(b) || a == b) return bad(BAD);
        int[] getsA = new int[4];
        int[] getsB = new int[4];
        for (int pair = 0; pair < 4; pair++) {
            Sailing s = all.sailing.copy();
            s.crew.get(a).fed = pair == 1 || pair == 3;
            s.crew.get(b).fed = pair == 2 || pair == 3;
            getsA[pair] = s.steers() == a ? 0 : 1;
            getsB[pair] = s.steers() == b ? 0 : 1;
        }
        int[] otherwiseA = {1, 0, 3, 2};
        int[] otherwiseB = {2, 3, 0, 1};
        int bits = 0;
        for (int pair = 0; pair < 4; pair++) {
            if (getsA[otherwiseA[pair]] <= getsA[pair] && getsB[otherwiseB[pair]] <= getsB[pair]) bits |= 1 << pair;
        }
        return bits;
    }

    int seen(int m, int p) {
        if (!in(m, 0, 20) || !in(p, -60, 60)) return bad(BAD);
        if (all.seen.size() == 6) return full();
        all.seen.add(new int[] {m, p});
        return all.seen.size();
    }

    int forget() {
        int had = all.seen.size();
        all.seen.clear();
        return had;
    }

    private boolean seenIsSo(Sailing from) {
        for (int[] sight : all.seen) {
            if (from.behind(sight[0]).place != sight[1]) return false;
        }
        return true;
    }

    private Sailing nodding(int hand, int nods) {
        Sailing s = all.sailing.copy();
        s.crew.get(hand).nods = nods;
        return s;
    }

    int nod(int hand) {
        if (notHand(hand)) return bad(BAD);
        int bits = 0;
        for (int nods = -3; nods <= 3; nods++) {
            if (seenIsSo(nodding(hand, nods))) bits |= 1 << (nods + 3);
        }
        return bits;
    }

    int is(int hand) {
        if (notHand(hand)) return bad(BAD);
        int bits = 0;
        for (int kind = 0; kind <= 5; kind++) {
            Sailing s = all.sailing.copy();
            s.crew.get(hand).kind = kind;
            if (seenIsSo(s)) bits |= 1 << kind;
        }
        return bits;
    }

    int look(int hand) {
        if (notHand(hand)) return bad(BAD);
        int may = nod(hand);
        if (may == 0) return NONE;
        int best = NONE;
        int fewest = Integer.MAX_VALUE;
        for (int m = 0; m <= 20; m++) {
            Map<Integer, Integer> byPlace = new HashMap<>();
            int most = 0;
            for (int nods = -3; nods <= 3; nods++) {
                if ((may & 1 << (nods + 3)) != 0) {
                    most = Math.max(most, byPlace.merge(nodding(hand, nods).behind(m).place, 1, Integer::sum));
                }
            }
            if (most < fewest) {
                fewest = most;
                best = m;
            }
        }
        return best;
    }

    int pulled(int b) {
        if (!in(b, -9, 9)) return bad(BAD);
        int bits = 0;
        for (int pull = 0; pull < 20; pull++) {
            int[] places = new int[21];
            Sailing s = all.sailing.copy();
            places[0] = s.place;
            for (int k = 0; k < 20; k++) {
                s.goWatch();
                if (k == pull) s.place += b;
                places[k + 1] = s.place;
            }
            boolean so = true;
            for (int[] sight : all.seen) {
                so &= places[sight[0]] == sight[1];
            }
            if (so) bits |= 1 << pull;
        }
        return bits;
    }

    int meet(int p, int b, int what) {
        if (!in(p, -60, 60) || !in(b, -3, 3) || !in(what, 0, 1)) return bad(BAD);
        int here = all.sailing.place;
        for (int m = 0; m <= 60; m++) {
            int she = all.sailing.behind(m).place;
            int other = p + b * m;
            if (what == 0 && she == other) return m;
            if (what == 1 && (here == p || here > p && she <= other || here < p && other <= she)) return m;
        }
        return NONE;
    }

    int odds(int hand, int c) {
        if (notHand(hand) || !in(c, 0, 10)) return bad(BAD);
        BigInteger cases = BigInteger.ZERO;
        Sailing s = all.sailing.copy();
        int n = s.crew.size();
        for (int set = 0; set < 1 << n; set++) {
            s.feedJust(set);
            if (s.steers() == hand) {
                int fed = Integer.bitCount(set);
                cases = cases.add(BigInteger.valueOf(c).pow(fed).multiply(BigInteger.valueOf(10 - c).pow(n - fed)));
            }
        }
        BigInteger whole = BigInteger.TEN.pow(n);
        BigInteger divisor = cases.gcd(whole);
        above = cases.divide(divisor);
        below = whole.divide(divisor);
        return 1;
    }

    int voyages(int seed, int n) {
        if (!in(seed, 0, 999999) || !in(n, 0, 60)) return bad(-10000);
        BigInteger x = BigInteger.valueOf(seed);
        Sailing s = all.sailing.copy();
        for (int k = 0; k < n; k++) {
            x = x.multiply(BigInteger.valueOf(1103515245)).add(BigInteger.valueOf(12345)).mod(BigInteger.TWO.pow(31));
            int who = x.divide(BigInteger.valueOf(65536)).mod(BigInteger.valueOf(7)).intValue();
            s.feedJust(1 << who);
            s.goWatch();
        }
        return s.place;
    }

    long part(int what) {
        return what == 0 ? above.longValue() : what == 1 ? below.longValue() : bad(BAD);
    }

    int image(int i) {
        if (!in(i, 0, 1)) return bad(BAD);
        images[i] = all.copy();
        return 1;
    }

    int from(int i) {
        if (!in(i, 0, 1)) return bad(BAD);
        if (images[i] == null) return no();
        all = images[i].copy();
        return 1;
    }

    int status(int what) {
        return in(what, 0, 2) ? refused[what] : bad(-1);
    }

    private int[] counts() {
        int fed = 0;
        for (Hand h : all.sailing.crew) {
            fed += h.fed ? 1 : 0;
        }
        return new int[] {all.sailing.crew.size(), all.rocks.size(), all.sailing.watch, fed, all.seen.size(),
            all.undo.size(), text.length()};
    }

    int count(int what) {
        return in(what, 0, 6) ? counts()[what] : bad(BAD);
    }

    long digest() {
        List<Long> values = new ArrayList<>();
        Arrays.stream(counts()).forEach(c -> values.add((long) c));
        values.add((long) all.sailing.place);
        for (Hand h : all.sailing.crew) {
            values.addAll(List.of((long) h.kind, (long) h.tired, (long) h.nods, h.fed ? 1L : 0L));
        }
        all.rocks.forEach(r -> values.add((long) r));
        all.seen.forEach(s -> values.addAll(List.of((long) s[0], (long) s[1])));
        values.add(above.longValue());
        values.add(below.longValue());
        long h = 1181;
        for (long v : values) {
            h = 31 * h + v;
        }
        return h;
    }
}
