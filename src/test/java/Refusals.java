/**
 * The refusals in their order, and that a refused call changes nothing: each is
 * made on one of two objects that are alike, and both must be alike after it,
 * to the last answer, what their images keep included.
 */
public final class Refusals extends HailTest {
    private static final long GONE_OUTSIDE = HailNames.GONE + OUTSIDE;
    private static final String FINE = "A>CA@b.1>";
    private static final String FAULTY = "A>CA@";
    private static final String IMPOSSIBLE = "A>C.C>C.";
    private static final String FAULTY_AND_IMPOSSIBLE = "C>CA>CA";

    private interface Call {
        long on(HailNames x);
    }

    public static void main(String[] args) {
        String[] texts = {"", FINE, FAULTY, IMPOSSIBLE, FAULTY_AND_IMPOSSIBLE, "A>C".repeat(20)};
        for (String text : texts) {
            unknownBeforeOutside(text);
            outsideBeforeAllOthers(text);
            outsideOfTheLaterCalls(text);
        }
        faultBeforeState(FAULTY);
        faultBeforeState(FAULTY_AND_IMPOSSIBLE);
        stateOfText();
        fullPad();
        fullSights();
        nothingKept();
        outsideBeforeNone();
        aSignChangesTheFault();
        tellAndExit();
    }

    /** Something of everything, other than what a new object has, and image 0 kept. */
    private static HailNames busy(String text) {
        HailNames x = new HailNames();
        x.stone(6, 3, 50, 60);
        x.seen(3, 2, 1);
        x.person(4, 4, 40);
        x.image(0);
        x.person(0, 12, 3);
        x.person(1, 99, 99);
        x.stone(3, 4, 20, 7);
        x.stone(4, 9, 33, 99);
        x.melt(3);
        after(x, "1?G..2>0>");
        x.reader(3, 11, 4);
        x.seen(4, 0, 1);
        return said(x, text);
    }

    private static void refused(int promise, String call, String text, Call made, long refusal) {
        HailNames x = busy(text);
        due(promise, call + " on " + text, made.on(x), refusal);
        due(promise, "nothing has changed by " + call + " on " + text + " (1, 0)",
            look(x).equals(look(busy(text))) ? 1 : 0, 1);
    }

    private static String look(HailNames x) {
        StringBuilder seen = new StringBuilder();
        lookAtText(x, seen);
        lookAtAll(x, seen);
        for (int k = 0; k < 2; k++) {
            seen.append(" image ").append(k).append(' ').append(x.restore(k));
            lookAtAll(x, seen);
        }
        return seen.toString();
    }

    private static void lookAtText(HailNames x, StringBuilder seen) {
        seen.append(x.fault());
        for (int what = 0; what < 3; what++) {
            seen.append(' ').append(x.judge(what));
        }
        for (int what = 0; what < 4; what++) {
            seen.append(' ').append(x.yard(what));
            for (int who = 0; who < 8; who++) {
                seen.append(' ').append(x.behind(who, what));
            }
            for (int who = 0; who < 4; who++) {
                seen.append(' ').append(x.reads(who, what));
            }
        }
        seen.append(' ').append(x.lost(0)).append(' ').append(x.lost(1));
    }

    private static void lookAtAll(HailNames x, StringBuilder seen) {
        for (int what = 0; what < 90; what++) {
            int row = what / 10;
            int rowEnd = row == 0 ? 6 : row < 6 ? 8 : 4;
            if (what % 10 < rowEnd) {
                seen.append(' ').append(x.told(what));
            }
        }
        for (int i = -1; i < 4; i++) {
            seen.append(' ').append(x.nets(i));
        }
        seen.append(' ').append(x.plan(1, 1)).append(' ').append(x.cover(1, 1)).append(' ').append(x.ask(0));
    }

    // ---- on whatever text there is

    private static void unknownBeforeOutside(String text) {
        refused(2, "person(8, 1, 1)", text, x -> x.person(8, 1, 1), UNKNOWN);
        refused(2, "person(-1, 1, 1)", text, x -> x.person(-1, 1, 1), UNKNOWN);
        refused(2, "person(8, 100, -1)", text, x -> x.person(8, 100, -1), UNKNOWN);
        refused(3, "stone(8, 1, 1, 1)", text, x -> x.stone(8, 1, 1, 1), UNKNOWN);
        refused(3, "stone(-1, -1, 0, 0)", text, x -> x.stone(-1, -1, 0, 0), UNKNOWN);
        refused(3, "stone(8, 12, 0, 100)", text, x -> x.stone(8, 12, 0, 100), UNKNOWN);
        refused(4, "reader(4, 1, 1)", text, x -> x.reader(4, 1, 1), UNKNOWN);
        refused(4, "reader(-1, 12, 10)", text, x -> x.reader(-1, 12, 10), UNKNOWN);
        refused(10, "behind(8, 0)", text, x -> x.behind(8, 0), UNKNOWN);
        refused(10, "behind(-1, 5)", text, x -> x.behind(-1, 5), UNKNOWN);
        refused(11, "reads(4, 0)", text, x -> x.reads(4, 0), UNKNOWN);
        refused(11, "reads(-1, 4)", text, x -> x.reads(-1, 4), UNKNOWN);
        refused(15, "plan(4, 0)", text, x -> x.plan(4, 0), UNKNOWN);
        refused(15, "plan(-1, 2)", text, x -> x.plan(-1, 2), UNKNOWN);
    }

    private static void outsideBeforeAllOthers(String text) {
        refused(2, "person(2, 100, 1)", text, x -> x.person(2, 100, 1), OUTSIDE);
        refused(2, "person(2, 1, 100)", text, x -> x.person(2, 1, 100), OUTSIDE);
        refused(3, "stone(3, 12, 1, 1)", text, x -> x.stone(3, 12, 1, 1), OUTSIDE);
        refused(3, "stone(3, 1, 0, 1)", text, x -> x.stone(3, 1, 0, 1), OUTSIDE);
        refused(3, "stone(3, 1, 1, 0)", text, x -> x.stone(3, 1, 1, 0), OUTSIDE);
        refused(3, "stone(3, -1, 0, 1)", text, x -> x.stone(3, -1, 0, 1), OUTSIDE);
        refused(4, "reader(3, 12, 1)", text, x -> x.reader(3, 12, 1), OUTSIDE);
        refused(4, "reader(0, 1, 10)", text, x -> x.reader(0, 1, 10), OUTSIDE);
        refused(5, "melt(0)", text, x -> x.melt(0), OUTSIDE);
        refused(5, "melt(10)", text, x -> x.melt(10), OUTSIDE);
        refused(6, "say(32)", text, x -> x.say(32), OUTSIDE);
        refused(6, "say(127)", text, x -> x.say(127), OUTSIDE);
        refused(9, "judge(3)", text, x -> x.judge(3), OUTSIDE);
        refused(10, "behind(0, 5)", text, x -> x.behind(0, 5), OUTSIDE);
        refused(11, "reads(0, 4)", text, x -> x.reads(0, 4), OUTSIDE);
        refused(12, "yard(4)", text, x -> x.yard(4), OUTSIDE);
        refused(13, "lost(2)", text, x -> x.lost(2), OUTSIDE);
    }

    private static void outsideOfTheLaterCalls(String text) {
        refused(15, "plan(1, 2)", text, x -> x.plan(1, 2), OUTSIDE);
        refused(16, "cover(12, 0)", text, x -> x.cover(12, 0), OUTSIDE);
        refused(16, "cover(0, 2)", text, x -> x.cover(0, 2), OUTSIDE);
        refused(17, "seen(0, 0, 0)", text, x -> x.seen(0, 0, 0), OUTSIDE);
        refused(17, "seen(1, 4, 0)", text, x -> x.seen(1, 4, 0), OUTSIDE);
        refused(17, "seen(1, 0, 4)", text, x -> x.seen(1, 0, 4), OUTSIDE);
        refused(19, "nets(81)", text, x -> x.nets(81), NONE);
        refused(20, "ask(2)", text, x -> x.ask(2), OUTSIDE);
        refused(21, "roots(1000, 0)", text, x -> x.roots(1000, 0), OUTSIDE);
        refused(21, "roots(9, 2)", text, x -> x.roots(9, 2), OUTSIDE);
        refused(22, "thought(13, 0, 0, 0)", text, x -> x.thought(13, 0, 0, 0), GONE_OUTSIDE);
        refused(23, "storm(10000, 9, 0)", text, x -> x.storm(10000, 9, 0), OUTSIDE);
        refused(23, "storm(9, 100, 0)", text, x -> x.storm(9, 100, 0), OUTSIDE);
        refused(23, "storm(9, 9, 3)", text, x -> x.storm(9, 9, 3), OUTSIDE);
        refused(24, "image(2)", text, x -> x.image(2), OUTSIDE);
        refused(24, "image(-1)", text, x -> x.image(-1), OUTSIDE);
        refused(25, "restore(2)", text, x -> x.restore(2), OUTSIDE);
        refused(25, "restore(-1)", text, x -> x.restore(-1), OUTSIDE);
        refused(26, "told(6)", text, x -> x.told(6), OUTSIDE);
    }

    // ---- on texts that can not stand

    private static void faultBeforeState(String text) {
        for (int w = 0; w < 3; w++) {
            int what = w;
            refused(9, "judge(" + what + ")", text, x -> x.judge(what), NO);
        }
        allBehindRefused(text, NO);
    }

    private static void stateOfText() {
        due(9, "judge(0) is not refused for an ACT", busy(IMPOSSIBLE).judge(0), 2);
        due(9, "judge(1) is not refused for an ACT", busy(IMPOSSIBLE).judge(1), 1);
        refused(9, "judge(2)", IMPOSSIBLE, x -> x.judge(2), STATE);
        allBehindRefused(IMPOSSIBLE, STATE);
    }

    private static void allBehindRefused(String text, int refusal) {
        for (int w = 0; w < 5; w++) {
            int what = w;
            refused(10, "behind(2, " + what + ")", text, x -> x.behind(2, what), refusal);
            if (what < 4) {
                refused(11, "reads(2, " + what + ")", text, x -> x.reads(2, what), refusal);
                refused(12, "yard(" + what + ")", text, x -> x.yard(what), refusal);
            }
            if (what < 2) {
                refused(13, "lost(" + what + ")", text, x -> x.lost(what), refusal);
            }
        }
        refused(14, "done()", text, HailNames::done, refusal);
    }

    // ---- what is full, what is not kept

    private static void fullPad() {
        String full = "A>C".repeat(20);
        refused(6, "say('.') on a full PAD", full, x -> x.say('.'), FULL);
        refused(6, "say(126) on a full PAD", full, x -> x.say(126), FULL);
        refused(6, "say(33) on a full PAD", full, x -> x.say(33), FULL);
        refused(6, "say(0) on a full PAD", full, x -> x.say(0), OUTSIDE);
    }

    private static void fullSights() {
        HailNames x = busy(FINE);
        HailNames twin = busy(FINE);
        for (int number = 3; number <= 8; number++) {
            due(17, "seen(8, 3, 0)", x.seen(8, 3, 0), number);
            twin.seen(8, 3, 0);
        }
        due(17, "seen(15, 0, 3), there being 8", x.seen(15, 0, 3), FULL);
        due(17, "seen(16, 0, 3), there being 8", x.seen(16, 0, 3), OUTSIDE);
        due(17, "seen(15, -1, 3), there being 8", x.seen(15, -1, 3), OUTSIDE);
        due(17, "seen(15, 0, 4), there being 8", x.seen(15, 0, 4), OUTSIDE);
        due(17, "nothing has changed (1, 0)", look(x).equals(look(twin)) ? 1 : 0, 1);
    }

    private static void nothingKept() {
        refused(25, "restore(1), image 0 being kept", FINE, x -> x.restore(1), STATE);
        refused(25, "restore(2), image 0 being kept", FINE, x -> x.restore(2), OUTSIDE);
        HailNames x = new HailNames();
        due(25, "restore(0) at first", x.restore(0), STATE);
        due(25, "restore(1) at first", x.restore(1), STATE);
        x.image(2);
        x.image(-1);
        due(25, "restore(0), refused images being none", x.restore(0), STATE);
        due(25, "restore(1), refused images being none", x.restore(1), STATE);
        x.image(1);
        due(25, "restore(0), image 1 being kept", x.restore(0), STATE);
        due(25, "restore(1), image 1 being kept", x.restore(1), 1);
    }

    private static void outsideBeforeNone() {
        HailNames x = new HailNames();
        x.seen(1, 0, 1);
        due(20, "ask(0) when nothing fits", x.ask(0), NONE);
        due(20, "ask(1) when nothing fits", x.ask(1), NONE);
        due(20, "ask(2) when nothing fits", x.ask(2), OUTSIDE);
        due(20, "ask(-1) when nothing fits", x.ask(-1), OUTSIDE);
    }

    /** "A sign that is said changes what fault() tells", also one that can stand nowhere. */
    private static void aSignChangesTheFault() {
        HailNames x = new HailNames();
        due(6, "fault() of nothing", x.fault(), NONE);
        x.say('A');
        due(6, "fault() of A", x.fault(), 1);
        x.say('>');
        due(6, "fault() of A>", x.fault(), 2);
        x.say(200);
        due(6, "fault() of A>, a sign being refused", x.fault(), 2);
        x.say('B');
        due(6, "fault() of A>B", x.fault(), NONE);
        due(6, "say('~')", x.say('~'), 4);
        due(6, "fault() of A>B~", x.fault(), 3);
        due(6, "judge(0) of A>B~", x.judge(0), NO);
    }
}
