/**
 * The census from above: people by how often they are thought of, stones that
 * melt in a yard, readers who must be quick. DOC.md numbers what it promises.
 */
public final class HailNames {
    public static final int UNKNOWN = -1, OUTSIDE = -2, STATE = -3, FULL = -4, NO = -5, NONE = -6;
    public static final long GONE = -1000000000000000000L;

    private static final int PEOPLE = 8, READERS = 4, CELLS = 12, IMAGES = 2;
    private static final int MOST = 99, MOST_STUNNED = 9, MOST_READ = 999, MOST_MELT = 9, LAST_SECOND = 99;
    private static final int PAD_SIGNS = 60, FIRST_SIGN = 33, LAST_SIGN = 126;
    private static final int THINKERS = 4, ALL_THINKERS = 15, MOST_SIGHTS = 8, NETS = 81;
    private static final int MOST_HEAP = 999, MOST_SEED = 9999, MOST_DRAWS = 99;
    private static final int THINKS = 0, FALLS = 1, GOES = 2, READS = 3, SECOND = 4;

    // Not a refusal: the call goes on.
    private static final int FINE = 0;

    private final Plain now = new Plain();
    private final Pad pad = new Pad();
    private final Outcome outcome = new Outcome();
    private final Planner planner = new Planner();
    private final Sights sights = new Sights();
    private final NetFinder finder = new NetFinder();
    private final Image[] images = new Image[IMAGES];

    public HailNames() {
        for (int k = 0; k < IMAGES; k++) {
            images[k] = new Image();
        }
    }

    // ---- 1 people, stones, readers

    public int person(int person, int count, int noted) {
        if (!isPerson(person)) {
            return UNKNOWN;
        }
        if (!within(count, 0, MOST) || !within(noted, 0, MOST)) {
            return OUTSIDE;
        }
        int before = 100 * now.count[person] + now.noted[person];
        now.count[person] = count;
        now.noted[person] = noted;
        return before;
    }

    public int stone(int person, int cell, int size, int figure) {
        if (!isPerson(person)) {
            return UNKNOWN;
        }
        boolean nowhere = cell == -1 && size == 0 && figure == 0;
        boolean somewhere = isCell(cell) && within(size, 1, MOST) && within(figure, 1, MOST);
        if (!nowhere && !somewhere) {
            return OUTSIDE;
        }
        int before = now.cell[person];
        now.put(person, nowhere ? NONE : cell, size, figure);
        return before;
    }

    public int reader(int reader, int cell, int stunned) {
        if (!isReader(reader)) {
            return UNKNOWN;
        }
        if (!isCell(cell) || !within(stunned, 0, MOST_STUNNED)) {
            return OUTSIDE;
        }
        int before = now.place[reader];
        now.place[reader] = cell;
        now.stunned[reader] = stunned;
        now.acted[reader] = false;
        return before;
    }

    public int melt(int v) {
        if (!within(v, 1, MOST_MELT)) {
            return OUTSIDE;
        }
        int before = now.melting;
        now.melting = v;
        return before;
    }

    public int say(int sign) {
        if (!within(sign, FIRST_SIGN, LAST_SIGN)) {
            return OUTSIDE;
        }
        return pad.append(sign) ? pad.length : FULL;
    }

    public int wipe() {
        return pad.clear();
    }

    public int fault() {
        return pad.firstFault();
    }

    // ---- 2 storms

    public int judge(int what) {
        if (!within(what, 0, 2)) {
            return OUTSIDE;
        }
        int refusal = followText();
        if (refusal == NO) {
            return NO;
        }
        if (what == 0) {
            return outcome.badAct;
        }
        if (what == 1) {
            return outcome.why;
        }
        return refusal == FINE ? outcome.stonesLost : refusal;
    }

    public int behind(int person, int what) {
        if (!isPerson(person)) {
            return UNKNOWN;
        }
        if (!within(what, 0, 4)) {
            return OUTSIDE;
        }
        int refusal = followText();
        return refusal == FINE ? outcome.after.ofPerson(person, what) : refusal;
    }

    public int reads(int reader, int what) {
        if (!isReader(reader)) {
            return UNKNOWN;
        }
        if (!within(what, 0, 3)) {
            return OUTSIDE;
        }
        int refusal = followText();
        return refusal == FINE ? outcome.after.ofReader(reader, what) : refusal;
    }

    public int yard(int what) {
        if (!within(what, 0, 3)) {
            return OUTSIDE;
        }
        int refusal = followText();
        if (refusal != FINE) {
            return refusal;
        }
        switch (what) {
            case 0:
                return outcome.after.second;
            case 1:
                return outcome.after.lyingStones();
            case 2:
                return outcome.after.figuresAdded();
            default:
                return outcome.after.mostNoted();
        }
    }

    public int lost(int what) {
        if (!within(what, 0, 1)) {
            return OUTSIDE;
        }
        int refusal = followText();
        if (refusal != FINE) {
            return refusal;
        }
        return what == 0 ? outcome.lossAct : outcome.lossPerson;
    }

    public int done() {
        int refusal = followText();
        if (refusal != FINE) {
            return refusal;
        }
        now.copyFrom(outcome.after);
        pad.clear();
        return outcome.acts;
    }

    /** Follows the text on a copy of what is; what came of it is left in outcome. */
    private int followText() {
        if (pad.firstFault() != NONE) {
            return NO;
        }
        outcome.startFrom(now);
        outcome.follow(pad);
        return outcome.badAct == NONE ? FINE : STATE;
    }

    // ---- 3 plans, covers

    public int plan(int reader, int what) {
        if (!isReader(reader)) {
            return UNKNOWN;
        }
        if (!within(what, 0, 1)) {
            return OUTSIDE;
        }
        int stones = planner.bestStones(now, reader);
        return what == 0 ? now.figuresOf(stones) : stones;
    }

    public int cover(int d, int what) {
        if (!within(d, 0, CELLS - 1) || !within(what, 0, 1)) {
            return OUTSIDE;
        }
        int cells = fewestCells(d);
        return what == 0 ? Integer.bitCount(cells) : cells;
    }

    /** Sets are tried rising, so that the first of a number is the least as bits. */
    private int fewestCells(int d) {
        int best = (1 << CELLS) - 1;
        for (int cells = 0; cells < 1 << CELLS; cells++) {
            if (Integer.bitCount(cells) < Integer.bitCount(best) && now.allNear(cells, d)) {
                best = cells;
            }
        }
        return best;
    }

    // ---- 4 nets, roots, thoughts

    public int seen(int set, int p, int k) {
        if (!within(set, 1, ALL_THINKERS) || !within(p, 0, THINKERS - 1) || !within(k, 0, THINKERS - 1)) {
            return OUTSIDE;
        }
        return sights.append(set, p, k) ? sights.number : FULL;
    }

    public int forget() {
        int before = sights.number;
        sights.number = 0;
        return before;
    }

    public int nets(int i) {
        finder.findNets(sights);
        if (i == -1) {
            return finder.found;
        }
        return finder.figuresOfNet(i);
    }

    public int ask(int what) {
        if (!within(what, 0, 1)) {
            return OUTSIDE;
        }
        finder.findNets(sights);
        if (finder.found == 0) {
            return NONE;
        }
        finder.findQuestion();
        return what == 0 ? finder.question : finder.mostLeft;
    }

    public int roots(int n, int what) {
        if (!within(n, 0, MOST_HEAP) || !within(what, 0, 1)) {
            return OUTSIDE;
        }
        int taken = n - lastLosingHeap(n);
        if (what == 0) {
            return taken > 0 ? 1 : 0;
        }
        return taken > 0 ? taken : NONE;
    }

    /**
     * The largest heap up to n that loses. As a heap less its root never falls
     * when heaps grow, a heap wins just if it reaches the last one that loses.
     */
    private static int lastLosingHeap(int n) {
        int losing = 0;
        int root = 0;
        for (int heap = 1; heap <= n; heap++) {
            if ((root + 1) * (root + 1) <= heap) {
                root++;
            }
            if (heap - root > losing) {
                losing = heap;
            }
        }
        return losing;
    }

    public long thought(int n, int k, int what, int part) {
        if (!within(n, 2, 12) || !within(k, 0, n - 1) || !within(what, 0, 2) || !within(part, 0, 1)) {
            return GONE + OUTSIDE;
        }
        long upper = 1;
        long lower = power(n - 1, 2);
        if (what == 0) {
            upper = choices(n - 1, k) * power(n - 2, n - 1 - k);
            lower = power(n - 1, n - 1);
        } else if (what == 2) {
            upper = derangements(n);
            lower = power(n - 1, n);
        }
        long divisor = Math.max(1, commonDivisor(upper, lower));
        return (part == 0 ? upper : lower) / divisor;
    }

    private static long power(long base, int exponent) {
        long product = 1;
        for (int i = 0; i < exponent; i++) {
            product *= base;
        }
        return product;
    }

    private static long choices(int n, int k) {
        long ways = 1;
        for (int i = 1; i <= k; i++) {
            ways = ways * (n - k + i) / i;
        }
        return ways;
    }

    /** Nobody is left out just if all think of different ones, nobody of himself. */
    private static long derangements(int n) {
        long before = 1;
        long ways = 0;
        for (int i = 2; i <= n; i++) {
            long next = (i - 1) * (ways + before);
            before = ways;
            ways = next;
        }
        return ways;
    }

    private static long commonDivisor(long a, long b) {
        long larger = a;
        long smaller = b;
        // Euclid's steps at least halve every other number: 64 bits need fewer than 200.
        for (int i = 0; i < 200 && smaller != 0; i++) {
            long left = larger % smaller;
            larger = smaller;
            smaller = left;
        }
        return larger;
    }

    public int storm(int seed, int m, int what) {
        if (!within(seed, 0, MOST_SEED) || !within(m, 1, MOST_DRAWS) || !within(what, 0, 2)) {
            return OUTSIDE;
        }
        outcome.startFrom(now);
        outcome.followDraws(seed, m);
        if (what == 0) {
            return outcome.after.lyingStones();
        }
        return what == 1 ? outcome.stonesLost : outcome.after.notedAdded();
    }

    public int image(int k) {
        if (!within(k, 0, IMAGES - 1)) {
            return OUTSIDE;
        }
        images[k].plain.copyFrom(now);
        images[k].sights.copyFrom(sights);
        images[k].kept = true;
        return 1;
    }

    public int restore(int k) {
        if (!within(k, 0, IMAGES - 1)) {
            return OUTSIDE;
        }
        if (!images[k].kept) {
            return STATE;
        }
        now.copyFrom(images[k].plain);
        sights.copyFrom(images[k].sights);
        return 1;
    }

    public int told(int what) {
        if (!within(what, 0, 89)) {
            return OUTSIDE;
        }
        int row = what / 10;
        int who = what % 10;
        if (row == 0) {
            return toldOfAll(who);
        }
        if (row <= 5) {
            return isPerson(who) ? now.ofPerson(who, row - 1) : OUTSIDE;
        }
        return isReader(who) ? now.ofReader(who, row - 6) : OUTSIDE;
    }

    private int toldOfAll(int what) {
        switch (what) {
            case 0:
                return pad.length;
            case 1:
                return now.second;
            case 2:
                return now.melting;
            case 3:
                return now.lyingStones();
            case 4:
                return now.freeReaders();
            case 5:
                return sights.number;
            default:
                return OUTSIDE;
        }
    }

    private static boolean within(int number, int least, int most) {
        return least <= number && number <= most;
    }

    private static boolean isPerson(int number) {
        return within(number, 0, PEOPLE - 1);
    }

    private static boolean isReader(int number) {
        return within(number, 0, READERS - 1);
    }

    private static boolean isCell(int number) {
        return within(number, 0, CELLS - 1);
    }

    /** One act. Whom is a person (thinks, reads), a cell (falls), a step of 1 or -1 (goes). */
    private static final class Act {
        int kind = SECOND;
        int who = 0;
        int whom = 0;

        void set(int newKind, int newWho, int newWhom) {
            kind = newKind;
            who = newWho;
            whom = newWhom;
        }

        /** Looked at before any of its numbers is used as an index. */
        boolean isSound() {
            switch (kind) {
                case THINKS:
                    return isPerson(who) && isPerson(whom);
                case FALLS:
                    return isPerson(who) && isCell(whom);
                case GOES:
                    return isReader(who) && (whom == 1 || whom == -1);
                case READS:
                    return isReader(who) && isPerson(whom);
                default:
                    return kind == SECOND;
            }
        }

        /** The draw that x is, x being at least 0. */
        void setByDraw(int x) {
            int y = x / 8;
            switch (x % 8) {
                case 0:
                case 1:
                    set(THINKS, y % 8, y / 8 % 8);
                    break;
                case 2:
                    set(FALLS, y % 8, y / 8 % 12);
                    break;
                case 3:
                case 4:
                    set(GOES, y % 4, y / 4 % 2 == 0 ? 1 : -1);
                    break;
                case 5:
                    set(READS, y % 4, y / 4 % 8);
                    break;
                default:
                    set(SECOND, 0, 0);
                    break;
            }
        }
    }

    /** People, stones, readers, the melting and the second: what acts change. */
    private static final class Plain {
        final int[] count = new int[PEOPLE];
        final int[] noted = new int[PEOPLE];
        final int[] cell = new int[PEOPLE];
        final int[] size = new int[PEOPLE];
        final int[] figure = new int[PEOPLE];
        final int[] place = new int[READERS];
        final int[] stunned = new int[READERS];
        final int[] stonesRead = new int[READERS];
        final boolean[] acted = new boolean[READERS];
        int melting = 1;
        int second = 0;

        Plain() {
            for (int p = 0; p < PEOPLE; p++) {
                cell[p] = NONE;
            }
            for (int r = 0; r < READERS; r++) {
                place[r] = 3 * r;
            }
        }

        void copyFrom(Plain other) {
            System.arraycopy(other.count, 0, count, 0, PEOPLE);
            System.arraycopy(other.noted, 0, noted, 0, PEOPLE);
            System.arraycopy(other.cell, 0, cell, 0, PEOPLE);
            System.arraycopy(other.size, 0, size, 0, PEOPLE);
            System.arraycopy(other.figure, 0, figure, 0, PEOPLE);
            System.arraycopy(other.place, 0, place, 0, READERS);
            System.arraycopy(other.stunned, 0, stunned, 0, READERS);
            System.arraycopy(other.stonesRead, 0, stonesRead, 0, READERS);
            for (int r = 0; r < READERS; r++) {
                acted[r] = other.acted[r];
            }
            melting = other.melting;
            second = other.second;
        }

        void put(int person, int newCell, int newSize, int newFigure) {
            cell[person] = newCell;
            size[person] = newSize;
            figure[person] = newFigure;
        }

        boolean lies(int person) {
            return cell[person] != NONE;
        }

        boolean isFree(int reader) {
            return stunned[reader] == 0 && !acted[reader];
        }

        /** In the order of behind, and of the rows of told. */
        int ofPerson(int person, int what) {
            switch (what) {
                case 0:
                    return count[person];
                case 1:
                    return noted[person];
                case 2:
                    return cell[person];
                case 3:
                    return size[person];
                default:
                    return figure[person];
            }
        }

        /** In the order of reads, and of the rows of told. */
        int ofReader(int reader, int what) {
            switch (what) {
                case 0:
                    return place[reader];
                case 1:
                    return stunned[reader];
                case 2:
                    return stonesRead[reader];
                default:
                    return isFree(reader) ? 1 : 0;
            }
        }

        int lyingStones() {
            int bits = 0;
            for (int p = 0; p < PEOPLE; p++) {
                if (lies(p)) {
                    bits |= 1 << p;
                }
            }
            return bits;
        }

        int freeReaders() {
            int bits = 0;
            for (int r = 0; r < READERS; r++) {
                if (isFree(r)) {
                    bits |= 1 << r;
                }
            }
            return bits;
        }

        int figuresOf(int people) {
            int sum = 0;
            for (int p = 0; p < PEOPLE; p++) {
                if ((people >> p & 1) == 1) {
                    sum += figure[p];
                }
            }
            return sum;
        }

        int figuresAdded() {
            return figuresOf(lyingStones());
        }

        int notedAdded() {
            int sum = 0;
            for (int p = 0; p < PEOPLE; p++) {
                sum += noted[p];
            }
            return sum;
        }

        int mostNoted() {
            int most = 0;
            for (int p = 1; p < PEOPLE; p++) {
                if (noted[p] > noted[most]) {
                    most = p;
                }
            }
            return most;
        }

        /** Whether each stone that lies is no more than d off one of the cells. */
        boolean allNear(int cells, int d) {
            for (int p = 0; p < PEOPLE; p++) {
                if (lies(p) && (cells & cellsNear(cell[p], d)) == 0) {
                    return false;
                }
            }
            return true;
        }

        private static int cellsNear(int middle, int d) {
            int first = Math.max(0, middle - d);
            int last = Math.min(CELLS - 1, middle + d);
            return (1 << last + 1) - (1 << first);
        }

        /** The least reason for which the act can not be; FINE if it can. */
        int whyNot(Act act) {
            switch (act.kind) {
                case THINKS:
                    return whyNotThink(act.who, act.whom);
                case FALLS:
                    return count[act.who] == 0 ? 3 : lies(act.who) ? 4 : FINE;
                case GOES:
                    return !isFree(act.who) ? 5 : !isCell(place[act.who] + act.whom) ? 6 : FINE;
                case READS:
                    // A stone that is nowhere is on no reader's cell, as NONE is none.
                    return !isFree(act.who) ? 5 : cell[act.whom] != place[act.who] ? 7 : FINE;
                default:
                    return second >= LAST_SECOND ? 8 : FINE;
            }
        }

        private int whyNotThink(int who, int whom) {
            if (who == whom) {
                return 1;
            }
            return count[whom] >= MOST ? 2 : FINE;
        }

        /** Does an act that can be; answers whose stones were lost by it, as bits. */
        int perform(Act act) {
            switch (act.kind) {
                case THINKS:
                    count[act.whom]++;
                    return 0;
                case FALLS:
                    dropStone(act.who, act.whom);
                    return 0;
                case GOES:
                    place[act.who] += act.whom;
                    acted[act.who] = true;
                    return 0;
                case READS:
                    readStone(act.who, act.whom);
                    return 0;
                default:
                    return passSecond();
            }
        }

        private void dropStone(int person, int where) {
            put(person, where, count[person], count[person]);
            count[person] = 0;
            for (int r = 0; r < READERS; r++) {
                if (place[r] == where) {
                    stunned[r] = Math.min(MOST_STUNNED, stunned[r] + figure[person] / 10);
                }
            }
        }

        private void readStone(int reader, int person) {
            noted[person] = figure[person];
            stonesRead[reader] = Math.min(MOST_READ, stonesRead[reader] + 1);
            acted[reader] = true;
            put(person, NONE, 0, 0);
        }

        private int passSecond() {
            int gone = 0;
            for (int p = 0; p < PEOPLE; p++) {
                if (lies(p)) {
                    size[p] -= melting;
                    if (size[p] <= 0) {
                        put(p, NONE, 0, 0);
                        gone |= 1 << p;
                    }
                }
            }
            for (int r = 0; r < READERS; r++) {
                stunned[r] = Math.max(0, stunned[r] - 1);
                acted[r] = false;
            }
            second++;
            return gone;
        }
    }

    /** The text of a storm, as it is said. */
    private static final class Pad {
        final int[] signs = new int[PAD_SIGNS];
        int length = 0;

        boolean append(int sign) {
            if (length >= PAD_SIGNS) {
                return false;
            }
            signs[length] = sign;
            length++;
            return true;
        }

        int clear() {
            int before = length;
            length = 0;
            return before;
        }

        /** 0 behind the end: no sign that can stand anywhere, so that a text cut short has its fault there. */
        private int signAt(int at) {
            return at >= 0 && at < length && at < PAD_SIGNS ? signs[at] : 0;
        }

        int firstFault() {
            int at = 0;
            for (int acts = 0; acts < PAD_SIGNS && at < length; acts++) {
                int faultAt = faultOfAct(at);
                if (faultAt != NONE) {
                    return faultAt;
                }
                at += signsOfAct(at);
            }
            return NONE;
        }

        private int faultOfAct(int at) {
            int first = signAt(at);
            if (first == '.') {
                return NONE;
            }
            if (isPerson(first - 'A')) {
                return faultOfPersonsAct(at);
            }
            return isReader(first - '0') ? faultOfReadersAct(at) : at;
        }

        private int faultOfPersonsAct(int at) {
            int verb = signAt(at + 1);
            int last = signAt(at + 2);
            if (verb == '>') {
                return isPerson(last - 'A') ? NONE : at + 2;
            }
            if (verb == '@') {
                return isCell(last - 'a') ? NONE : at + 2;
            }
            return at + 1;
        }

        private int faultOfReadersAct(int at) {
            int verb = signAt(at + 1);
            if (verb == '>' || verb == '<') {
                return NONE;
            }
            if (verb == '?') {
                return isPerson(signAt(at + 2) - 'A') ? NONE : at + 2;
            }
            return at + 1;
        }

        /** Of an act without a fault. */
        int signsOfAct(int at) {
            int first = signAt(at);
            if (first == '.') {
                return 1;
            }
            return isPerson(first - 'A') || signAt(at + 1) == '?' ? 3 : 2;
        }

        /** Of an act without a fault. */
        void actAt(int at, Act act) {
            int first = signAt(at);
            int verb = signAt(at + 1);
            int last = signAt(at + 2);
            if (first == '.') {
                act.set(SECOND, 0, 0);
            } else if (isReader(first - '0')) {
                if (verb == '?') {
                    act.set(READS, first - '0', last - 'A');
                } else {
                    act.set(GOES, first - '0', verb == '>' ? 1 : -1);
                }
            } else if (verb == '>') {
                act.set(THINKS, first - 'A', last - 'A');
            } else {
                act.set(FALLS, first - 'A', last - 'a');
            }
        }
    }

    /** What comes of a storm that is followed on a copy, so that nothing is done in fact. */
    private static final class Outcome {
        final Plain after = new Plain();
        final Act act = new Act();
        int acts = 0;
        int badAct = NONE;
        int why = NONE;
        int stonesLost = 0;
        int lossAct = NONE;
        int lossPerson = NONE;

        void startFrom(Plain plain) {
            after.copyFrom(plain);
            acts = 0;
            badAct = NONE;
            why = NONE;
            stonesLost = 0;
            lossAct = NONE;
            lossPerson = NONE;
        }

        /** Follows a text without a fault, up to the first act that can not be. */
        void follow(Pad pad) {
            int at = 0;
            for (int i = 0; i < PAD_SIGNS && at < pad.length && badAct == NONE; i++) {
                pad.actAt(at, act);
                int reason = tryAct();
                if (reason != FINE) {
                    badAct = i;
                    why = reason;
                }
                at += pad.signsOfAct(at);
            }
        }

        void followDraws(int seed, int draws) {
            int x = seed;
            for (int i = 0; i < draws; i++) {
                x = (75 * x + 74) % 65537;
                act.setByDraw(x);
                tryAct();
            }
        }

        /** Does the act if it can be: FINE, or why it can not. */
        private int tryAct() {
            int reason = act.isSound() ? after.whyNot(act) : NO;
            if (reason == FINE) {
                noteLoss(after.perform(act));
                acts++;
            }
            return reason;
        }

        private void noteLoss(int people) {
            stonesLost += Integer.bitCount(people);
            if (people != 0 && lossAct == NONE) {
                lossAct = acts;
                lossPerson = Integer.numberOfTrailingZeros(people);
            }
        }
    }

    /** What one reader can read at the most. */
    private static final class Planner {
        // Later than any stone lasts.
        private static final int NEVER = 1000;

        /** By set of stones read and by the last of them: the second from which he is free again. */
        final int[] freeFrom = new int[(1 << PEOPLE) * PEOPLE];

        /** Sets are tried rising, so that the first of a sum is the least as bits. */
        int bestStones(Plain plain, int reader) {
            int lying = plain.lyingStones();
            int best = 0;
            int bestSum = 0;
            for (int stones = 1; stones < 1 << PEOPLE; stones++) {
                if ((stones & ~lying) == 0 && canRead(plain, reader, stones)) {
                    int sum = plain.figuresOf(stones);
                    if (sum > bestSum) {
                        best = stones;
                        bestSum = sum;
                    }
                }
            }
            return best;
        }

        /** Relies on its answers for all smaller sets of stones that lie. */
        private boolean canRead(Plain plain, int reader, int stones) {
            boolean can = false;
            for (int last = 0; last < PEOPLE; last++) {
                int at = stones * PEOPLE + last;
                freeFrom[at] = NEVER;
                if ((stones >> last & 1) == 1) {
                    int arrival = earliestArrival(plain, reader, stones ^ 1 << last, last);
                    if (arrival < NEVER && plain.size[last] > arrival * plain.melting) {
                        freeFrom[at] = arrival + 1;
                        can = true;
                    }
                }
            }
            return can;
        }

        /** To be early is never worse: stones only melt, so the least second is all that counts. */
        private int earliestArrival(Plain plain, int reader, int before, int next) {
            if (before == 0) {
                int start = Math.max(plain.stunned[reader], plain.acted[reader] ? 1 : 0);
                return start + Math.abs(plain.place[reader] - plain.cell[next]);
            }
            int earliest = NEVER;
            for (int last = 0; last < PEOPLE; last++) {
                if ((before >> last & 1) == 1) {
                    int way = Math.abs(plain.cell[last] - plain.cell[next]);
                    earliest = Math.min(earliest, freeFrom[before * PEOPLE + last] + way);
                }
            }
            return earliest;
        }
    }

    /** What was seen of the four who think. */
    private static final class Sights {
        final int[] sets = new int[MOST_SIGHTS];
        final int[] aims = new int[MOST_SIGHTS];
        final int[] counts = new int[MOST_SIGHTS];
        int number = 0;

        boolean append(int set, int aim, int k) {
            if (number >= MOST_SIGHTS) {
                return false;
            }
            sets[number] = set;
            aims[number] = aim;
            counts[number] = k;
            number++;
            return true;
        }

        void copyFrom(Sights other) {
            System.arraycopy(other.sets, 0, sets, 0, MOST_SIGHTS);
            System.arraycopy(other.aims, 0, aims, 0, MOST_SIGHTS);
            System.arraycopy(other.counts, 0, counts, 0, MOST_SIGHTS);
            number = other.number;
        }

        boolean allow(int net) {
            for (int s = 0; s < number && s < MOST_SIGHTS; s++) {
                if (Integer.bitCount(sets[s] & NetFinder.thinkersOf(net, aims[s])) != counts[s]) {
                    return false;
                }
            }
            return true;
        }
    }

    /**
     * The nets that fit, and what to ask next. A net is held as its place among
     * all 81: four digits by three, each the place of one's aim among the others.
     */
    private static final class NetFinder {
        final int[] fitting = new int[NETS];
        final int[] netsByThinkers = new int[ALL_THINKERS + 1];
        final int[] netsByAnswer = new int[THINKERS + 1];
        int found = 0;
        int question = NONE;
        int mostLeft = NONE;

        void findNets(Sights sights) {
            found = 0;
            for (int net = 0; net < NETS; net++) {
                if (sights.allow(net)) {
                    fitting[found] = net;
                    found++;
                }
            }
        }

        private static int aimOf(int who, int digit) {
            return digit < who ? digit : digit + 1;
        }

        /** Who thinks of the one told, as bits. */
        static int thinkersOf(int net, int aim) {
            int bits = 0;
            int rest = net;
            for (int who = THINKERS - 1; who >= 0; who--) {
                if (aimOf(who, rest % 3) == aim) {
                    bits |= 1 << who;
                }
                rest /= 3;
            }
            return bits;
        }

        int figuresOfNet(int i) {
            if (i < 0 || i >= found || i >= NETS) {
                return NONE;
            }
            int rest = fitting[i];
            int figures = 0;
            int weight = 1;
            for (int who = THINKERS - 1; who >= 0; who--) {
                figures += weight * aimOf(who, rest % 3);
                weight *= 10;
                rest /= 3;
            }
            return figures;
        }

        void findQuestion() {
            question = NONE;
            mostLeft = NETS + 1;
            for (int aim = 0; aim < THINKERS; aim++) {
                countByThinkers(aim);
                for (int set = 1; set <= ALL_THINKERS; set++) {
                    int left = leftAtMost(set);
                    int asked = 10 * set + aim;
                    if (left < mostLeft || left == mostLeft && asked < question) {
                        mostLeft = left;
                        question = asked;
                    }
                }
            }
        }

        private void countByThinkers(int aim) {
            for (int t = 0; t <= ALL_THINKERS; t++) {
                netsByThinkers[t] = 0;
            }
            for (int i = 0; i < found && i < NETS; i++) {
                netsByThinkers[thinkersOf(fitting[i], aim)]++;
            }
        }

        /** Of the aim that was counted last. */
        private int leftAtMost(int set) {
            for (int k = 0; k <= THINKERS; k++) {
                netsByAnswer[k] = 0;
            }
            int most = 0;
            for (int t = 0; t <= ALL_THINKERS; t++) {
                int k = Integer.bitCount(set & t);
                netsByAnswer[k] += netsByThinkers[t];
                most = Math.max(most, netsByAnswer[k]);
            }
            return most;
        }
    }

    /** All but the pad, as it was when it was kept. */
    private static final class Image {
        final Plain plain = new Plain();
        final Sights sights = new Sights();
        boolean kept = false;
    }
}
