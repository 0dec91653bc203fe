import java.math.BigInteger;
import java.util.ArrayList;
import java.util.Arrays;
import java.util.HashSet;
import java.util.List;
import java.util.Random;
import java.util.Set;
import java.util.regex.Matcher;
import java.util.regex.Pattern;

/**
 * Long runs of drawn calls, each answer held against a slow model that was
 * written from DOC.md by other means: texts by patterns, plans second by
 * second, nets by their figures, thoughts by counting all that can be.
 */
public final class HailNamesAgainstModel {
    private static final int RUNS = 300;
    private static final int CALLS = 512;
    private static int wrong = 0;

    public static void main(String[] args) {
        for (int seed = 0; seed < RUNS && wrong < 20; seed++) {
            drawnRun(seed);
        }
        allRoots();
        allThoughts();
        System.out.println(wrong == 0 ? "all answers are as the model's" : wrong + " answers are not as the model's");
        if (wrong != 0) {
            System.exit(1);
        }
    }

    private static void same(String where, long got, long want) {
        if (got != want) {
            wrong++;
            System.out.println(where + " answered " + got + ", the model says " + want);
        }
    }

    // ---- drawn runs

    private static void drawnRun(int seed) {
        Random random = new Random(seed);
        HailNames x = new HailNames();
        Model model = new Model();
        String ahead = "";
        int calls = 0;
        while (calls < CALLS && wrong < 20) {
            if (ahead.isEmpty() && random.nextInt(3) == 0) {
                ahead = drawnText(random, model);
            }
            if (!ahead.isEmpty()) {
                int sign = ahead.charAt(0);
                ahead = ahead.substring(1);
                same("seed " + seed + " say(" + sign + ")", x.say(sign), model.say(sign));
                calls++;
                continue;
            }
            drawnCall(random, seed, x, model);
            calls++;
        }
        for (int what = -1; what < 95; what++) {
            same("seed " + seed + " at the end told(" + what + ")", x.told(what), model.told(what));
        }
    }

    /** Mostly acts that can be, so that texts come to an end now and then. */
    private static String drawnText(Random random, Model model) {
        StringBuilder text = new StringBuilder();
        int acts = 1 + random.nextInt(4);
        for (int i = 0; i < acts; i++) {
            text.append(drawnAct(random, model));
        }
        if (random.nextInt(12) == 0) {
            text.append((char) (30 + random.nextInt(100)));
        }
        return text.toString();
    }

    private static String drawnAct(Random random, Model model) {
        char person = (char) ('A' + random.nextInt(8));
        char other = (char) ('A' + random.nextInt(8));
        int reader = random.nextInt(4);
        switch (random.nextInt(7)) {
            case 0:
            case 1:
                return person + ">" + other;
            case 2:
                return person + "@" + (char) ('a' + random.nextInt(12));
            case 3:
                return reader + (random.nextBoolean() ? ">" : "<");
            case 4:
                for (int p = 0; p < 8; p++) {
                    if (model.s.cell[p] == model.s.place[reader]) {
                        return reader + "?" + (char) ('A' + p);
                    }
                }
                return reader + "?" + person;
            default:
                return ".";
        }
    }

    /** A number from least to most, now and then one beside. */
    private static int near(Random random, int least, int most) {
        int kind = random.nextInt(40);
        if (kind == 0) {
            return least - 1;
        }
        if (kind == 1) {
            return most + 1;
        }
        if (kind == 2) {
            return random.nextInt();
        }
        return least + random.nextInt(most - least + 1);
    }

    private static void drawnCall(Random r, int seed, HailNames x, Model m) {
        int a;
        int b;
        int c;
        int d;
        String at = "seed " + seed + " ";
        switch (r.nextInt(27)) {
            case 0:
                a = near(r, 0, 7);
                b = near(r, 0, r.nextInt(4) == 0 ? 99 : 20);
                c = near(r, 0, 99);
                same(at + "person(" + a + ", " + b + ", " + c + ")", x.person(a, b, c), m.person(a, b, c));
                break;
            case 1:
            case 24:
                a = near(r, 0, 7);
                b = near(r, -1, 11);
                c = b == -1 && r.nextInt(4) > 0 ? 0 : near(r, 1, r.nextInt(4) == 0 ? 99 : 15);
                d = b == -1 && r.nextInt(4) > 0 ? 0 : near(r, 1, r.nextInt(4) == 0 ? 99 : 9);
                same(at + "stone(" + a + ", " + b + ", " + c + ", " + d + ")", x.stone(a, b, c, d), m.stone(a, b, c, d));
                break;
            case 2:
                a = near(r, 0, 3);
                b = near(r, 0, 11);
                c = r.nextBoolean() ? 0 : near(r, 0, 9);
                same(at + "reader(" + a + ", " + b + ", " + c + ")", x.reader(a, b, c), m.reader(a, b, c));
                break;
            case 3:
                a = r.nextBoolean() ? 1 : near(r, 1, 9);
                same(at + "melt(" + a + ")", x.melt(a), m.melt(a));
                break;
            case 4:
                same(at + "wipe()", x.wipe(), m.wipe());
                break;
            case 5:
                same(at + "fault()", x.fault(), m.fault());
                break;
            case 6:
                a = near(r, 0, 2);
                same(at + "judge(" + a + ")", x.judge(a), m.judge(a));
                break;
            case 7:
                a = near(r, 0, 7);
                b = near(r, 0, 4);
                same(at + "behind(" + a + ", " + b + ")", x.behind(a, b), m.behind(a, b));
                break;
            case 8:
                a = near(r, 0, 3);
                b = near(r, 0, 3);
                same(at + "reads(" + a + ", " + b + ")", x.reads(a, b), m.reads(a, b));
                break;
            case 9:
                a = near(r, 0, 3);
                same(at + "yard(" + a + ")", x.yard(a), m.yard(a));
                break;
            case 10:
                a = near(r, 0, 1);
                same(at + "lost(" + a + ")", x.lost(a), m.lost(a));
                break;
            case 11:
            case 25:
                int before = m.pad.length();
                int done = m.done();
                same(at + "done()", x.done(), done);
                if (done < 0 && before > 8) {
                    same(at + "wipe()", x.wipe(), m.wipe());
                }
                break;
            default:
                drawnLaterCall(r, at, x, m);
                break;
        }
    }

    private static void drawnLaterCall(Random r, String at, HailNames x, Model m) {
        int a;
        int b;
        int c;
        switch (r.nextInt(12)) {
            case 0:
            case 1:
                a = near(r, 0, 3);
                b = near(r, 0, 1);
                same(at + "plan(" + a + ", " + b + ")", x.plan(a, b), m.plan(a, b));
                break;
            case 2:
                a = near(r, 0, r.nextBoolean() ? 3 : 11);
                b = near(r, 0, 1);
                same(at + "cover(" + a + ", " + b + ")", x.cover(a, b), m.cover(a, b));
                break;
            case 3:
                a = near(r, 1, 15);
                b = near(r, 0, 3);
                c = near(r, 0, r.nextBoolean() ? 1 : 3);
                same(at + "seen(" + a + ", " + b + ", " + c + ")", x.seen(a, b, c), m.seen(a, b, c));
                break;
            case 4:
                if (r.nextInt(3) == 0) {
                    same(at + "forget()", x.forget(), m.forget());
                }
                break;
            case 5:
                a = r.nextBoolean() ? near(r, 0, 9) : near(r, -1, 80);
                same(at + "nets(" + a + ")", x.nets(a), m.nets(a));
                same(at + "nets(-1)", x.nets(-1), m.nets(-1));
                break;
            case 6:
                a = near(r, 0, 1);
                same(at + "ask(" + a + ")", x.ask(a), m.ask(a));
                break;
            case 7:
            case 8:
                a = near(r, 0, 9999);
                b = near(r, 1, 99);
                c = near(r, 0, 2);
                same(at + "storm(" + a + ", " + b + ", " + c + ")", x.storm(a, b, c), m.storm(a, b, c));
                break;
            case 9:
                a = near(r, 0, 1);
                same(at + "image(" + a + ")", x.image(a), m.image(a));
                break;
            case 10:
                a = near(r, 0, 1);
                same(at + "restore(" + a + ")", x.restore(a), m.restore(a));
                break;
            default:
                a = near(r, 0, 90);
                same(at + "told(" + a + ")", x.told(a), m.told(a));
                break;
        }
    }

    // ---- roots and thoughts, all of them

    private static void allRoots() {
        int[] first = new int[1000];
        for (int n = 0; n < 1000; n++) {
            HailNames x = new HailNames();
            first[n] = HailNames.NONE;
            for (int take = 1; take * take <= n && first[n] == HailNames.NONE; take++) {
                if (first[n - take] == HailNames.NONE) {
                    first[n] = take;
                }
            }
            same("roots(" + n + ", 1)", x.roots(n, 1), first[n]);
            same("roots(" + n + ", 0)", x.roots(n, 0), first[n] == HailNames.NONE ? 0 : 1);
        }
    }

    private static void allThoughts() {
        for (int n = 2; n <= 7; n++) {
            countedThoughts(n);
        }
        for (int n = 8; n <= 12; n++) {
            HailNames x = new HailNames();
            BigInteger others = BigInteger.valueOf(n - 1);
            for (int k = 0; k < n; k++) {
                BigInteger ways = choose(n - 1, k).multiply(BigInteger.valueOf(n - 2).pow(n - 1 - k));
                sameFraction(x, n, k, 0, ways, others.pow(n - 1));
                sameFraction(x, n, k, 1, BigInteger.ONE, others.pow(2));
                sameFraction(x, n, k, 2, withoutOwn(n), others.pow(n));
            }
        }
    }

    private static void countedThoughts(int n) {
        long[] byJust = new long[n];
        long mutual = 0;
        long nobody = 0;
        long all = 1;
        for (int i = 0; i < n; i++) {
            all *= n - 1;
        }
        for (long net = 0; net < all; net++) {
            int[] of = new int[n];
            int[] times = new int[n];
            long rest = net;
            for (int i = 0; i < n; i++) {
                of[i] = (int) ((i + 1 + rest % (n - 1)) % n);
                rest /= n - 1;
                times[of[i]]++;
            }
            byJust[times[0]]++;
            mutual += of[0] == 1 && of[1] == 0 ? 1 : 0;
            nobody += Arrays.stream(times).min().getAsInt() > 0 ? 1 : 0;
        }
        HailNames x = new HailNames();
        BigInteger whole = BigInteger.valueOf(all);
        for (int k = 0; k < n; k++) {
            sameFraction(x, n, k, 0, BigInteger.valueOf(byJust[k]), whole);
            sameFraction(x, n, k, 1, BigInteger.valueOf(mutual), whole);
            sameFraction(x, n, k, 2, BigInteger.valueOf(nobody), whole);
        }
    }

    private static void sameFraction(HailNames x, int n, int k, int what, BigInteger upper, BigInteger lower) {
        BigInteger common = upper.gcd(lower);
        String call = "thought(" + n + ", " + k + ", " + what + ", ";
        same(call + "0)", x.thought(n, k, what, 0), upper.divide(common).longValueExact());
        same(call + "1)", x.thought(n, k, what, 1), lower.divide(common).longValueExact());
    }

    private static BigInteger factorial(int n) {
        return n == 0 ? BigInteger.ONE : BigInteger.valueOf(n).multiply(factorial(n - 1));
    }

    private static BigInteger choose(int n, int k) {
        return factorial(n).divide(factorial(k).multiply(factorial(n - k)));
    }

    private static BigInteger withoutOwn(int n) {
        BigInteger sum = BigInteger.ZERO;
        for (int i = 0; i <= n; i++) {
            BigInteger term = choose(n, i).multiply(factorial(n - i));
            sum = i % 2 == 0 ? sum.add(term) : sum.subtract(term);
        }
        return sum;
    }

    // ---- the model

    private static final class Situation {
        int[] count = new int[8];
        int[] noted = new int[8];
        int[] cell = {-6, -6, -6, -6, -6, -6, -6, -6};
        int[] size = new int[8];
        int[] figure = new int[8];
        int[] place = {0, 3, 6, 9};
        int[] stunned = new int[4];
        int[] read = new int[4];
        int[] busy = new int[4];
        int melt = 1;
        int second = 0;
        List<int[]> sights = new ArrayList<>();

        Situation copy() {
            Situation c = new Situation();
            c.count = count.clone();
            c.noted = noted.clone();
            c.cell = cell.clone();
            c.size = size.clone();
            c.figure = figure.clone();
            c.place = place.clone();
            c.stunned = stunned.clone();
            c.read = read.clone();
            c.busy = busy.clone();
            c.melt = melt;
            c.second = second;
            c.sights = new ArrayList<>(sights);
            return c;
        }

        /** 0 if it was done, else why not; whose were lost goes into the list. */
        int act(String text, List<Integer> lost) {
            char first = text.charAt(0);
            if (first == '.') {
                return second(lost);
            }
            char verb = text.charAt(1);
            char last = text.charAt(text.length() - 1);
            return first >= 'A' ? personAct(first - 'A', verb, last) : readerAct(first - '0', verb, last);
        }

        private int second(List<Integer> lost) {
            if (second == 99) {
                return 8;
            }
            second++;
            for (int p = 0; p < 8; p++) {
                if (cell[p] >= 0) {
                    size[p] = size[p] - melt;
                    if (size[p] < 1) {
                        lost.add(p);
                        cell[p] = -6;
                        size[p] = 0;
                        figure[p] = 0;
                    }
                }
            }
            for (int r = 0; r < 4; r++) {
                stunned[r] -= stunned[r] > 0 ? 1 : 0;
                busy[r] = 0;
            }
            return 0;
        }

        private int personAct(int p, char verb, char last) {
            if (verb == '>') {
                int q = last - 'A';
                if (p == q) {
                    return 1;
                }
                if (count[q] == 99) {
                    return 2;
                }
                count[q]++;
                return 0;
            }
            if (count[p] == 0) {
                return 3;
            }
            if (cell[p] >= 0) {
                return 4;
            }
            cell[p] = last - 'a';
            size[p] = count[p];
            figure[p] = count[p];
            count[p] = 0;
            for (int r = 0; r < 4; r++) {
                if (place[r] == cell[p]) {
                    stunned[r] += figure[p] / 10;
                    stunned[r] = stunned[r] > 9 ? 9 : stunned[r];
                }
            }
            return 0;
        }

        private int readerAct(int r, char verb, char last) {
            if (stunned[r] > 0 || busy[r] == 1) {
                return 5;
            }
            if (verb == '?') {
                int p = last - 'A';
                if (cell[p] != place[r]) {
                    return 7;
                }
                noted[p] = figure[p];
                read[r]++;
                cell[p] = -6;
                size[p] = 0;
                figure[p] = 0;
            } else {
                int to = verb == '>' ? place[r] + 1 : place[r] - 1;
                if (to < 0 || to > 11) {
                    return 6;
                }
                place[r] = to;
            }
            busy[r] = 1;
            return 0;
        }

        int stones() {
            int bits = 0;
            for (int p = 0; p < 8; p++) {
                bits += cell[p] >= 0 ? 1 << p : 0;
            }
            return bits;
        }

        int person(int p, int what) {
            return new int[] {count[p], noted[p], cell[p], size[p], figure[p]}[what];
        }

        int reader(int r, int what) {
            return new int[] {place[r], stunned[r], read[r], stunned[r] == 0 && busy[r] == 0 ? 1 : 0}[what];
        }
    }

    private static final class Model {
        private static final String ACT = "[A-H]>[A-H]|[A-H]@[a-l]|[0-3][<>]|[0-3]\\?[A-H]|\\.";
        private static final String BEGUN = "[A-H][>@]?|[0-3]\\??";
        private static final Pattern WHOLE = Pattern.compile("(" + ACT + ")*");
        private static final Pattern SO_FAR = Pattern.compile("(" + ACT + ")*(" + BEGUN + ")?");

        Situation s = new Situation();
        final Situation[] images = new Situation[2];
        String pad = "";

        // What came of the text when it was followed last.
        private Situation after;
        private int acts;
        private int bad;
        private int why;
        private int lostStones;
        private int lossAct;
        private int lossPerson;

        private static boolean in(int v, int least, int most) {
            return v >= least && v <= most;
        }

        int person(int p, int count, int noted) {
            if (!in(p, 0, 7)) {
                return -1;
            }
            if (!in(count, 0, 99) || !in(noted, 0, 99)) {
                return -2;
            }
            int was = s.count[p] * 100 + s.noted[p];
            s.count[p] = count;
            s.noted[p] = noted;
            return was;
        }

        int stone(int p, int cell, int size, int figure) {
            if (!in(p, 0, 7)) {
                return -1;
            }
            int least = cell == -1 ? 0 : 1;
            int most = cell == -1 ? 0 : 99;
            if (!in(cell, -1, 11) || !in(size, least, most) || !in(figure, least, most)) {
                return -2;
            }
            int was = s.cell[p];
            s.cell[p] = cell == -1 ? -6 : cell;
            s.size[p] = size;
            s.figure[p] = figure;
            return was;
        }

        int reader(int r, int cell, int stunned) {
            if (!in(r, 0, 3)) {
                return -1;
            }
            if (!in(cell, 0, 11) || !in(stunned, 0, 9)) {
                return -2;
            }
            int was = s.place[r];
            s.place[r] = cell;
            s.stunned[r] = stunned;
            s.busy[r] = 0;
            return was;
        }

        int melt(int v) {
            if (!in(v, 1, 9)) {
                return -2;
            }
            int was = s.melt;
            s.melt = v;
            return was;
        }

        int say(int sign) {
            if (!in(sign, 33, 126)) {
                return -2;
            }
            if (pad.length() == 60) {
                return -4;
            }
            pad = pad + (char) sign;
            return pad.length();
        }

        int wipe() {
            int was = pad.length();
            pad = "";
            return was;
        }

        int fault() {
            for (int i = 0; i < pad.length(); i++) {
                if (!SO_FAR.matcher(pad.substring(0, i + 1)).matches()) {
                    return i;
                }
            }
            return WHOLE.matcher(pad).matches() ? -6 : pad.length();
        }

        private int refusal() {
            if (fault() != -6) {
                return -5;
            }
            after = s.copy();
            acts = 0;
            bad = -6;
            why = -6;
            lostStones = 0;
            lossAct = -6;
            lossPerson = -6;
            Matcher matcher = Pattern.compile(ACT).matcher(pad);
            while (matcher.find()) {
                List<Integer> lost = new ArrayList<>();
                int reason = after.act(matcher.group(), lost);
                if (reason != 0) {
                    bad = acts;
                    why = reason;
                    return -3;
                }
                if (lostStones == 0 && !lost.isEmpty()) {
                    lossAct = acts;
                    lossPerson = lost.get(0);
                }
                lostStones += lost.size();
                acts++;
            }
            return 0;
        }

        int judge(int what) {
            if (!in(what, 0, 2)) {
                return -2;
            }
            int refusal = refusal();
            if (refusal == -5 || what == 2 && refusal != 0) {
                return refusal;
            }
            return new int[] {bad, why, lostStones}[what];
        }

        int behind(int p, int what) {
            if (!in(p, 0, 7)) {
                return -1;
            }
            if (!in(what, 0, 4)) {
                return -2;
            }
            int refusal = refusal();
            return refusal != 0 ? refusal : after.person(p, what);
        }

        int reads(int r, int what) {
            if (!in(r, 0, 3)) {
                return -1;
            }
            if (!in(what, 0, 3)) {
                return -2;
            }
            int refusal = refusal();
            return refusal != 0 ? refusal : after.reader(r, what);
        }

        int yard(int what) {
            if (!in(what, 0, 3)) {
                return -2;
            }
            int refusal = refusal();
            if (refusal != 0) {
                return refusal;
            }
            int who = 7;
            for (int p = 6; p >= 0; p--) {
                who = after.noted[p] >= after.noted[who] ? p : who;
            }
            return new int[] {after.second, after.stones(), Arrays.stream(after.figure).sum(), who}[what];
        }

        int lost(int what) {
            if (!in(what, 0, 1)) {
                return -2;
            }
            int refusal = refusal();
            return refusal != 0 ? refusal : what == 0 ? lossAct : lossPerson;
        }

        int done() {
            int refusal = refusal();
            if (refusal != 0) {
                return refusal;
            }
            s = after;
            pad = "";
            return acts;
        }

        /** Second by second, all places and sets that he can have come to. */
        int plan(int r, int what) {
            if (!in(r, 0, 3)) {
                return -1;
            }
            if (!in(what, 0, 1)) {
                return -2;
            }
            Set<Integer> can = new HashSet<>();
            can.add(s.place[r] * 256);
            int stunned = s.stunned[r];
            boolean busy = s.busy[r] == 1;
            int[] size = s.size.clone();
            Set<Integer> read = new HashSet<>();
            read.add(0);
            for (int second = 0; second < 100 && Arrays.stream(size).anyMatch(v -> v > 0); second++) {
                if (stunned == 0 && !busy) {
                    can = oneMore(can, size);
                    for (int c : can) {
                        read.add(c % 256);
                    }
                }
                for (int p = 0; p < 8; p++) {
                    size[p] -= s.melt;
                }
                stunned -= stunned > 0 ? 1 : 0;
                busy = false;
            }
            int best = 0;
            for (int set : read) {
                if (sum(set) > sum(best) || sum(set) == sum(best) && set < best) {
                    best = set;
                }
            }
            return what == 0 ? sum(best) : best;
        }

        private int sum(int set) {
            int sum = 0;
            for (int p = 0; p < 8; p++) {
                sum += (set & 1 << p) != 0 ? s.figure[p] : 0;
            }
            return sum;
        }

        private Set<Integer> oneMore(Set<Integer> can, int[] size) {
            Set<Integer> next = new HashSet<>(can);
            for (int c : can) {
                int place = c / 256;
                if (place > 0) {
                    next.add(c - 256);
                }
                if (place < 11) {
                    next.add(c + 256);
                }
                for (int p = 0; p < 8; p++) {
                    if (s.cell[p] == place && size[p] > 0 && (c & 1 << p) == 0) {
                        next.add(c | 1 << p);
                    }
                }
            }
            return next;
        }

        int cover(int d, int what) {
            if (!in(d, 0, 11) || !in(what, 0, 1)) {
                return -2;
            }
            for (int number = 0; number <= 12; number++) {
                for (int cells = 0; cells < 4096; cells++) {
                    if (Integer.bitCount(cells) == number && covered(cells, d)) {
                        return what == 0 ? number : cells;
                    }
                }
            }
            return -99;
        }

        private boolean covered(int cells, int d) {
            for (int p = 0; p < 8; p++) {
                boolean near = s.cell[p] < 0;
                for (int c = 0; c < 12; c++) {
                    near |= (cells >> c & 1) == 1 && Math.abs(c - s.cell[p]) <= d;
                }
                if (!near) {
                    return false;
                }
            }
            return true;
        }

        int seen(int set, int p, int k) {
            if (!in(set, 1, 15) || !in(p, 0, 3) || !in(k, 0, 3)) {
                return -2;
            }
            if (s.sights.size() == 8) {
                return -4;
            }
            s.sights.add(new int[] {set, p, k});
            return s.sights.size();
        }

        int forget() {
            int was = s.sights.size();
            s.sights.clear();
            return was;
        }

        private static int times(int net, int set, int p) {
            int[] figures = {net / 1000, net / 100 % 10, net / 10 % 10, net % 10};
            int times = 0;
            for (int i = 0; i < 4; i++) {
                times += (set >> i & 1) == 1 && figures[i] == p ? 1 : 0;
            }
            return times;
        }

        private static final List<Integer> ALL_NETS = allNets();

        private static List<Integer> allNets() {
            List<Integer> nets = new ArrayList<>();
            for (int net = 0; net < 10000; net++) {
                if (String.format("%04d", net).matches("[123][023][013][012]")) {
                    nets.add(net);
                }
            }
            return nets;
        }

        private List<Integer> allThatFit() {
            List<Integer> fit = new ArrayList<>();
            for (int net : ALL_NETS) {
                boolean so = true;
                for (int[] sight : s.sights) {
                    so &= times(net, sight[0], sight[1]) == sight[2];
                }
                if (so) {
                    fit.add(net);
                }
            }
            return fit;
        }

        int nets(int i) {
            List<Integer> fit = allThatFit();
            if (i == -1) {
                return fit.size();
            }
            return in(i, 0, fit.size() - 1) ? fit.get(i) : -6;
        }

        int ask(int what) {
            if (!in(what, 0, 1)) {
                return -2;
            }
            List<Integer> fit = allThatFit();
            if (fit.isEmpty()) {
                return -6;
            }
            int best = -6;
            int fewest = 82;
            for (int set = 1; set < 16; set++) {
                for (int p = 0; p < 4; p++) {
                    int[] left = new int[4];
                    for (int net : fit) {
                        left[times(net, set, p)]++;
                    }
                    int most = Arrays.stream(left).max().getAsInt();
                    if (most < fewest) {
                        fewest = most;
                        best = 10 * set + p;
                    }
                }
            }
            return what == 0 ? best : fewest;
        }

        int storm(int seed, int m, int what) {
            if (!in(seed, 0, 9999) || !in(m, 1, 99) || !in(what, 0, 2)) {
                return -2;
            }
            Situation t = s.copy();
            List<Integer> lost = new ArrayList<>();
            long x = seed;
            for (int i = 0; i < m; i++) {
                x = (75 * x + 74) % 65537;
                t.act(drawn((int) (x % 8), (int) (x / 8)), lost);
            }
            return new int[] {t.stones(), lost.size(), Arrays.stream(t.noted).sum()}[what];
        }

        private static String drawn(int kind, int y) {
            String person = "" + (char) ('A' + y % 8);
            String reader = "" + y % 4;
            if (kind < 2) {
                return person + ">" + (char) ('A' + y / 8 % 8);
            }
            if (kind == 2) {
                return person + "@" + (char) ('a' + y / 8 % 12);
            }
            if (kind < 5) {
                return reader + (y / 4 % 2 == 0 ? ">" : "<");
            }
            return kind == 5 ? reader + "?" + (char) ('A' + y / 4 % 8) : ".";
        }

        int image(int k) {
            if (!in(k, 0, 1)) {
                return -2;
            }
            images[k] = s.copy();
            return 1;
        }

        int restore(int k) {
            if (!in(k, 0, 1)) {
                return -2;
            }
            if (images[k] == null) {
                return -3;
            }
            s = images[k].copy();
            return 1;
        }

        int told(int what) {
            if (in(what, 0, 5)) {
                int free = 0;
                for (int r = 0; r < 4; r++) {
                    free += s.reader(r, 3) << r;
                }
                return new int[] {pad.length(), s.second, s.melt, s.stones(), free, s.sights.size()}[what];
            }
            for (int row = 1; row <= 5; row++) {
                if (in(what, 10 * row, 10 * row + 7)) {
                    return s.person(what - 10 * row, row - 1);
                }
            }
            for (int row = 6; row <= 8; row++) {
                if (in(what, 10 * row, 10 * row + 3)) {
                    return s.reader(what - 10 * row, row - 6);
                }
            }
            return -2;
        }
    }
}
