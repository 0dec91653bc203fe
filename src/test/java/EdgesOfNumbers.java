/**
 * The bounds of every number that a call takes: all from the least to the
 * greatest are taken, the first on either side is refused, and so is every
 * number that would wrap round into them.
 */
public final class EdgesOfNumbers extends HailTest {
    private interface Call {
        long on(HailNames x, int v);
    }

    public static void main(String[] args) {
        ofPeople();
        ofStones();
        ofReaders();
        ofMeltAndSigns();
        ofQuestionsAboutTexts();
        ofPlansAndCovers();
        ofSights();
        ofRoots();
        ofThoughts();
        ofStorms();
        ofImages();
        ofTold();
        keptAsGiven();
        tellAndExit();
    }

    private static void bounds(int promise, String call, int least, int most, long refusal, Call made) {
        for (int v = least; v <= most; v++) {
            due(promise, call + " takes " + v + ": refused (1, 0)", made.on(new HailNames(), v) == refusal ? 1 : 0, 0);
        }
        refusedBeyond(promise, call, least, most, refusal, made);
    }

    private static void refusedBeyond(int promise, String call, int least, int most, long refusal, Call made) {
        long[] turns = {1, 1L << 8, 1L << 15, 1L << 16, 1L << 31};
        for (long turn : turns) {
            refused(promise, call, least - turn, refusal, made);
            refused(promise, call, most + turn, refusal, made);
            if (turn > most - least) {
                refused(promise, call, least + turn, refusal, made);
                refused(promise, call, most - turn, refusal, made);
            }
        }
        refused(promise, call, Integer.MIN_VALUE, refusal, made);
        refused(promise, call, Integer.MAX_VALUE, refusal, made);
    }

    private static void refused(int promise, String call, long v, long refusal, Call made) {
        if (v == (int) v) {
            due(promise, call + " with " + v, made.on(new HailNames(), (int) v), refusal);
        }
    }

    private static void ofPeople() {
        bounds(2, "person(v, 0, 0)", 0, 7, UNKNOWN, (x, v) -> x.person(v, 0, 0));
        bounds(2, "person(0, v, 0)", 0, 99, OUTSIDE, (x, v) -> x.person(0, v, 0));
        bounds(2, "person(7, 0, v)", 0, 99, OUTSIDE, (x, v) -> x.person(7, 0, v));
    }

    private static void ofStones() {
        bounds(3, "stone(v, 0, 1, 1)", 0, 7, UNKNOWN, (x, v) -> x.stone(v, 0, 1, 1));
        bounds(3, "stone(v, -1, 0, 0)", 0, 7, UNKNOWN, (x, v) -> x.stone(v, -1, 0, 0));
        bounds(3, "stone(0, v, 1, 1)", 0, 11, OUTSIDE, (x, v) -> x.stone(0, v, 1, 1));
        bounds(3, "stone(0, 0, v, 1)", 1, 99, OUTSIDE, (x, v) -> x.stone(0, 0, v, 1));
        bounds(3, "stone(0, 11, 1, v)", 1, 99, OUTSIDE, (x, v) -> x.stone(0, 11, 1, v));
        bounds(3, "stone(0, v, 0, 0): nowhere", -1, -1, OUTSIDE, (x, v) -> x.stone(0, v, 0, 0));
        bounds(3, "stone(0, -1, v, 0): nowhere", 0, 0, OUTSIDE, (x, v) -> x.stone(0, -1, v, 0));
        bounds(3, "stone(0, -1, 0, v): nowhere", 0, 0, OUTSIDE, (x, v) -> x.stone(0, -1, 0, v));
        due(3, "stone(0, -1, 1, 1)", new HailNames().stone(0, -1, 1, 1), OUTSIDE);
        due(3, "stone(0, NONE, 0, 0)", new HailNames().stone(0, NONE, 0, 0), OUTSIDE);
        due(3, "stone(0, NONE, 1, 1)", new HailNames().stone(0, NONE, 1, 1), OUTSIDE);
    }

    private static void ofReaders() {
        bounds(4, "reader(v, 0, 0)", 0, 3, UNKNOWN, (x, v) -> x.reader(v, 0, 0));
        bounds(4, "reader(0, v, 0)", 0, 11, OUTSIDE, (x, v) -> x.reader(0, v, 0));
        bounds(4, "reader(3, 0, v)", 0, 9, OUTSIDE, (x, v) -> x.reader(3, 0, v));
    }

    private static void ofMeltAndSigns() {
        bounds(5, "melt(v)", 1, 9, OUTSIDE, HailNames::melt);
        bounds(6, "say(v)", 33, 126, OUTSIDE, HailNames::say);
    }

    private static void ofQuestionsAboutTexts() {
        bounds(9, "judge(v)", 0, 2, OUTSIDE, HailNames::judge);
        bounds(10, "behind(v, 0)", 0, 7, UNKNOWN, (x, v) -> x.behind(v, 0));
        bounds(10, "behind(0, v)", 0, 4, OUTSIDE, (x, v) -> x.behind(0, v));
        bounds(11, "reads(v, 0)", 0, 3, UNKNOWN, (x, v) -> x.reads(v, 0));
        bounds(11, "reads(0, v)", 0, 3, OUTSIDE, (x, v) -> x.reads(0, v));
        bounds(12, "yard(v)", 0, 3, OUTSIDE, HailNames::yard);
        bounds(13, "lost(v)", 0, 1, OUTSIDE, HailNames::lost);
    }

    private static void ofPlansAndCovers() {
        bounds(15, "plan(v, 0)", 0, 3, UNKNOWN, (x, v) -> x.plan(v, 0));
        bounds(15, "plan(0, v)", 0, 1, OUTSIDE, (x, v) -> x.plan(0, v));
        bounds(16, "cover(v, 0)", 0, 11, OUTSIDE, (x, v) -> x.cover(v, 0));
        bounds(16, "cover(0, v)", 0, 1, OUTSIDE, (x, v) -> x.cover(0, v));
    }

    private static void ofSights() {
        bounds(17, "seen(v, 0, 0)", 1, 15, OUTSIDE, (x, v) -> x.seen(v, 0, 0));
        bounds(17, "seen(1, v, 0)", 0, 3, OUTSIDE, (x, v) -> x.seen(1, v, 0));
        bounds(17, "seen(15, 0, v)", 0, 3, OUTSIDE, (x, v) -> x.seen(15, 0, v));
        bounds(19, "nets(v): some net", -1, 80, NONE, HailNames::nets);
        bounds(20, "ask(v)", 0, 1, OUTSIDE, HailNames::ask);
    }

    private static void ofRoots() {
        bounds(21, "roots(v, 0)", 0, 999, OUTSIDE, (x, v) -> x.roots(v, 0));
        bounds(21, "roots(v, 1)", 0, 999, OUTSIDE, (x, v) -> x.roots(v, 1));
        bounds(21, "roots(0, v)", 0, 1, OUTSIDE, (x, v) -> x.roots(0, v));
    }

    /** "k is no matter in both, but as told": it is refused there too. */
    private static void ofThoughts() {
        long refused = HailNames.GONE + OUTSIDE;
        for (int what = 0; what < 3; what++) {
            for (int part = 0; part < 2; part++) {
                int w = what;
                int p = part;
                String rest = w + ", " + p + ")";
                bounds(22, "thought(v, 0, " + rest, 2, 12, refused, (x, v) -> x.thought(v, 0, w, p));
                bounds(22, "thought(2, v, " + rest, 0, 1, refused, (x, v) -> x.thought(2, v, w, p));
                bounds(22, "thought(7, v, " + rest, 0, 6, refused, (x, v) -> x.thought(7, v, w, p));
                bounds(22, "thought(12, v, " + rest, 0, 11, refused, (x, v) -> x.thought(12, v, w, p));
            }
        }
        bounds(22, "thought(2, 0, v, 0)", 0, 2, refused, (x, v) -> x.thought(2, 0, v, 0));
        bounds(22, "thought(12, 11, 0, v)", 0, 1, refused, (x, v) -> x.thought(12, 11, 0, v));
        due(22, "GONE and the refusal", refused, -1000000000000000002L);
    }

    private static void ofStorms() {
        bounds(23, "storm(v, 1, 0)", 0, 9999, OUTSIDE, (x, v) -> x.storm(v, 1, 0));
        bounds(23, "storm(0, v, 0)", 1, 99, OUTSIDE, (x, v) -> x.storm(0, v, 0));
        bounds(23, "storm(9999, 99, v)", 0, 2, OUTSIDE, (x, v) -> x.storm(9999, 99, v));
    }

    private static void ofImages() {
        bounds(24, "image(v)", 0, 1, OUTSIDE, HailNames::image);
        bounds(25, "restore(v)", 0, 1, OUTSIDE, HailNames::restore);
    }

    /** Between the rows of told there are numbers that tell nothing. */
    private static void ofTold() {
        boolean[] tells = new boolean[200];
        int[] firsts = {0, 10, 20, 30, 40, 50, 60, 70, 80};
        int[] numbers = {6, 8, 8, 8, 8, 8, 4, 4, 4};
        for (int row = 0; row < firsts.length; row++) {
            for (int i = 0; i < numbers[row]; i++) {
                tells[firsts[row] + i] = true;
            }
        }
        HailNames x = new HailNames();
        for (int what = 0; what < tells.length; what++) {
            due(26, "told(" + what + "): OUTSIDE (1, 0)", x.told(what) == OUTSIDE ? 1 : 0, tells[what] ? 0 : 1);
        }
        refusedBeyond(26, "told(v)", 0, 83, OUTSIDE, HailNames::told);
    }

    /** The least and the greatest are not cut when they are kept, and of nobody else. */
    private static void keptAsGiven() {
        for (int p = 0; p < 8; p++) {
            HailNames x = new HailNames();
            due(2, "person(" + p + ", 0, 99)", x.person(p, 0, 99), 0);
            due(2, "person(" + p + ", 99, 0)", x.person(p, 99, 0), 99);
            due(2, "person(" + p + ", 99, 99)", x.person(p, 99, 99), 9900);
            due(2, "person(" + p + ", 0, 0)", x.person(p, 0, 0), 9999);
            due(3, "stone(" + p + ", 0, 1, 99)", x.stone(p, 0, 1, 99), NONE);
            due(3, "stone(" + p + ", 11, 99, 1)", x.stone(p, 11, 99, 1), 0);
            due(26, "STONES that lie", x.told(3), 1 << p);
            due(26, "the CELL", x.told(30 + p), 11);
            due(26, "SIZE", x.told(40 + p), 99);
            due(26, "FIGURE", x.told(50 + p), 1);
            due(3, "stone(" + p + ", -1, 0, 0)", x.stone(p, -1, 0, 0), 11);
            due(26, "the CELL, nowhere", x.told(30 + p), NONE);
            due(26, "SIZE, nowhere", x.told(40 + p), 0);
            due(26, "FIGURE, nowhere", x.told(50 + p), 0);
            due(26, "no STONE lies", x.told(3), 0);
        }
        for (int r = 0; r < 4; r++) {
            HailNames x = new HailNames();
            due(4, "reader(" + r + ", 11, 9)", x.reader(r, 11, 9), 3 * r);
            due(26, "STUNNED", x.told(70 + r), 9);
            due(26, "all others may", x.told(4), 15 - (1 << r));
            due(4, "reader(" + r + ", 0, 0)", x.reader(r, 0, 0), 11);
            due(26, "his CELL", x.told(60 + r), 0);
            due(26, "STUNNED no more", x.told(70 + r), 0);
            due(26, "all may", x.told(4), 15);
        }
        HailNames x = new HailNames();
        for (int v = 1; v <= 9; v++) {
            due(5, "melt(" + v + ")", x.melt(v), v == 1 ? 1 : v - 1);
            due(26, "MELT", x.told(2), v);
        }
    }
}
