/** For each promise of DOC.md: ordinary inputs, the edges it names, wrong inputs. Answers are worked out by hand. */
public final class HailNamesPromises extends HailTest {
    public static void main(String[] args) {
        newObject();
        person();
        stone();
        reader();
        melt();
        sayAndWipe();
        fault();
        judge();
        reasons();
        behind();
        reads();
        yard();
        lost();
        done();
        plan();
        cover();
        seenAndForget();
        nets();
        ask();
        roots();
        thought();
        storm();
        images();
        told();
        tellAndExit();
    }

    private static void newObject() {
        HailNames other = new HailNames();
        other.person(0, 9, 9);
        other.stone(1, 1, 9, 9);
        other.seen(1, 1, 1);
        after(other, "0>.");
        other.say('A');
        other.image(0);
        // What was done with another object is no matter.
        HailNames x = new HailNames();
        int[] all = {0, 0, 1, 0, 15, 0};
        for (int i = 0; i < all.length; i++) {
            due(1, "told(" + i + ")", x.told(i), all[i]);
        }
        for (int p = 0; p < 8; p++) {
            due(1, "COUNT", x.told(10 + p), 0);
            due(1, "NOTED", x.told(20 + p), 0);
            due(1, "CELL", x.told(30 + p), HailNames.NONE);
            due(1, "SIZE", x.told(40 + p), 0);
            due(1, "FIGURE", x.told(50 + p), 0);
        }
        for (int r = 0; r < 4; r++) {
            due(1, "his CELL", x.told(60 + r), 3 * r);
            due(1, "STUNNED", x.told(70 + r), 0);
            due(1, "READ", x.told(80 + r), 0);
        }
        due(1, "fault()", x.fault(), HailNames.NONE);
        due(1, "nets(-1)", x.nets(-1), 81);
        due(1, "restore(0)", x.restore(0), HailNames.STATE);
    }

    private static void person() {
        HailNames x = new HailNames();
        due(2, "person(7, 99, 98)", x.person(7, 99, 98), 0);
        due(2, "person(7, 1, 2)", x.person(7, 1, 2), 9998);
        due(2, "person(7, 0, 0)", x.person(7, 0, 0), 102);
        due(2, "person(-1, 0, 0)", x.person(-1, 0, 0), HailNames.UNKNOWN);
        due(2, "person(8, 100, 0)", x.person(8, 100, 0), HailNames.UNKNOWN);
        due(2, "person(0, -1, 0)", x.person(0, -1, 0), HailNames.OUTSIDE);
        due(2, "person(0, 5, 100)", x.person(0, 5, 100), HailNames.OUTSIDE);
        due(2, "person(0, 5, -1)", x.person(0, 5, -1), HailNames.OUTSIDE);
        due(2, "a refused call changes nothing", x.told(10), 0);
    }

    private static void stone() {
        HailNames x = new HailNames();
        due(3, "stone(0, 11, 1, 99)", x.stone(0, 11, 1, 99), HailNames.NONE);
        due(3, "stone(0, 0, 99, 1)", x.stone(0, 0, 99, 1), 11);
        due(3, "SIZE", x.told(40), 99);
        due(3, "FIGURE", x.told(50), 1);
        due(3, "stone(0, -1, 0, 1)", x.stone(0, -1, 0, 1), HailNames.OUTSIDE);
        due(3, "stone(0, -1, 0, 0)", x.stone(0, -1, 0, 0), 0);
        due(3, "SIZE", x.told(40), 0);
        due(3, "STONES", x.told(3), 0);
        due(3, "stone(0, -1, 0, 0) again", x.stone(0, -1, 0, 0), HailNames.NONE);
        due(3, "stone(8, -9, 0, 0)", x.stone(8, -9, 0, 0), HailNames.UNKNOWN);
        due(3, "stone(0, -2, 0, 0)", x.stone(0, -2, 0, 0), HailNames.OUTSIDE);
        due(3, "stone(0, 12, 1, 1)", x.stone(0, 12, 1, 1), HailNames.OUTSIDE);
        due(3, "stone(0, 1, 100, 1)", x.stone(0, 1, 100, 1), HailNames.OUTSIDE);
        due(3, "stone(0, 1, 1, 100)", x.stone(0, 1, 1, 100), HailNames.OUTSIDE);
        due(3, "stone(0, 1, 0, 0)", x.stone(0, 1, 0, 0), HailNames.OUTSIDE);
        due(3, "stone(0, 1, 1, 0)", x.stone(0, 1, 1, 0), HailNames.OUTSIDE);
    }

    private static void reader() {
        HailNames x = new HailNames();
        due(4, "reader(2, 11, 9)", x.reader(2, 11, 9), 6);
        due(4, "told(4)", x.told(4), 11);
        due(4, "reader(2, 0, 0)", x.reader(2, 0, 0), 11);
        due(4, "told(4)", x.told(4), 15);
        said(x, "2>").done();
        due(4, "told(4)", x.told(4), 11);
        due(4, "reader(2, 5, 0)", x.reader(2, 5, 0), 1);
        due(4, "he has done nothing in this second", x.told(4), 15);
        due(4, "reader(-1, 0, 0)", x.reader(-1, 0, 0), HailNames.UNKNOWN);
        due(4, "reader(4, 12, 0)", x.reader(4, 12, 0), HailNames.UNKNOWN);
        due(4, "reader(0, -1, 0)", x.reader(0, -1, 0), HailNames.OUTSIDE);
        due(4, "reader(0, 0, 10)", x.reader(0, 0, 10), HailNames.OUTSIDE);
        due(4, "reader(0, 0, -1)", x.reader(0, 0, -1), HailNames.OUTSIDE);
        x.stone(0, 5, 9, 9);
        said(x, "2?A").done();
        x.reader(2, 7, 1);
        due(4, "READ stays", x.told(82), 1);
    }

    private static void melt() {
        HailNames x = new HailNames();
        due(5, "melt(9)", x.melt(9), 1);
        due(5, "melt(1)", x.melt(1), 9);
        due(5, "melt(0)", x.melt(0), HailNames.OUTSIDE);
        due(5, "melt(10)", x.melt(10), HailNames.OUTSIDE);
        due(5, "told(2)", x.told(2), 1);
    }

    private static void sayAndWipe() {
        HailNames x = new HailNames();
        due(6, "say(32)", x.say(32), HailNames.OUTSIDE);
        due(6, "say(127)", x.say(127), HailNames.OUTSIDE);
        due(6, "say(33)", x.say(33), 1);
        due(6, "say(126)", x.say(126), 2);
        for (int i = 3; i <= 60; i++) {
            due(6, "say('.')", x.say('.'), i);
        }
        due(6, "say('.') on a full PAD", x.say('.'), HailNames.FULL);
        due(6, "say(0) on a full PAD", x.say(0), HailNames.OUTSIDE);
        due(7, "wipe()", x.wipe(), 60);
        due(7, "wipe() again", x.wipe(), 0);
        due(7, "told(0)", x.told(0), 0);
    }

    private static void fault() {
        String[] texts = {"", ".", "A>B", "A>A", "H@l", "3>", "0<", "3?H", "A>B0>.C@d2?H", "..!", "A", "A>", "A@",
            "0", "0?", "A>B0", "A.", "A<", "A?B", "A>I", "A>a", "A@m", "A@A", "A@`", "0@a", "0>>", "0?a", "0?1",
            "4>", "I@a", "a", ">", "@", "A>B>", "A>Bx"};
        int none = HailNames.NONE;
        int[] faults = {none, none, none, none, none, none, none, none, none, 2, 1, 2, 2,
            1, 2, 4, 1, 1, 1, 2, 2, 2, 2, 2, 1, 2, 2, 2,
            0, 0, 0, 0, 0, 3, 3};
        for (int i = 0; i < texts.length; i++) {
            due(8, "fault() of " + texts[i], fresh(texts[i]).fault(), faults[i]);
        }
        due(8, "fault() of a full PAD", fresh(".".repeat(60)).fault(), none);
        due(8, "fault() at the last of 60", fresh(".".repeat(59) + "!").fault(), 59);
        due(8, "fault() of a full PAD when more must come", fresh(".".repeat(58) + "A>").fault(), 60);
    }

    private static void judge() {
        HailNames x = fresh("A");
        due(9, "judge(-1)", x.judge(-1), HailNames.OUTSIDE);
        due(9, "judge(3)", x.judge(3), HailNames.OUTSIDE);
        for (int what = 0; what < 3; what++) {
            due(9, "judge(" + what + ") of a text with a FAULT", x.judge(what), HailNames.NO);
        }
        x = fresh("A>B.1>1>");
        due(9, "judge(0)", x.judge(0), 3);
        due(9, "judge(1)", x.judge(1), 5);
        due(9, "judge(2)", x.judge(2), HailNames.STATE);
        x = fresh("A>BC>B" + "B@aB>AA@a..");
        due(9, "judge(0)", x.judge(0), HailNames.NONE);
        due(9, "judge(1)", x.judge(1), HailNames.NONE);
        due(9, "judge(2)", x.judge(2), 2);
    }

    /** Promise 9, with the rules of acts of Terms 1. */
    private static void reasons() {
        due(9, "both are one", fresh("A>A").judge(1), 1);
        HailNames x = new HailNames();
        x.person(0, 99, 0);
        due(9, "both are one, the COUNT being 99", said(x, "A>A").judge(1), 1);
        due(9, "the COUNT is 99", said(x, "B>A").judge(1), 2);
        due(9, "who thinks may have 99", said(x, "A>B").judge(1), HailNames.NONE);
        due(9, "the COUNT is 0", said(x, "B@a").judge(1), 3);
        x.stone(0, 0, 9, 9);
        due(9, "the STONE lies already", said(x, "A@b").judge(1), 4);
        x.stone(1, 0, 9, 9);
        due(9, "the COUNT is 0, the STONE lies", said(x, "B@b").judge(1), 3);
        due(9, "no such CELL", said(x, "0<").judge(1), 6);
        due(9, "no STONE there", said(x, "1?A").judge(1), 7);
        due(9, "the STONE is nowhere", said(x, "1?C").judge(1), 7);
        x.reader(0, 0, 2);
        due(9, "STUNNED, and no such CELL", said(x, "0<").judge(1), 5);
        due(9, "STUNNED, and not there", said(x, "0?C").judge(1), 5);
        due(9, "STUNNED still", said(x, ".0?A").judge(1), 5);
        due(9, "no more STUNNED", said(x, "..0?A").judge(1), HailNames.NONE);
        x.reader(3, 11, 0);
        due(9, "no such CELL", said(x, "3>").judge(1), 6);
        due(9, "one thing a second", said(x, "3<3<").judge(0), 1);
        due(9, "all may again", said(x, "3<.3<").judge(0), HailNames.NONE);
        x = fresh(".".repeat(60));
        due(9, "done()", x.done(), 60);
        said(x, ".".repeat(40));
        due(9, "judge(0) at second 99", x.judge(0), 39);
        due(9, "judge(1) at second 99", x.judge(1), 8);
        due(9, "to second 99", said(x, ".".repeat(39)).yard(0), 99);
    }

    private static void behind() {
        HailNames x = fresh("A");
        due(10, "behind(8, 9)", x.behind(8, 9), HailNames.UNKNOWN);
        due(10, "behind(-1, 0)", x.behind(-1, 0), HailNames.UNKNOWN);
        due(10, "behind(0, 5)", x.behind(0, 5), HailNames.OUTSIDE);
        due(10, "behind(0, -1)", x.behind(0, -1), HailNames.OUTSIDE);
        due(10, "behind(0, 0)", x.behind(0, 0), HailNames.NO);
        due(10, "behind(0, 0)", said(x, "A>A").behind(0, 0), HailNames.STATE);
        x.person(0, 20, 7);
        said(x, "B>AA@dC>A");
        int[] wants = {1, 7, 3, 21, 21};
        for (int what = 0; what < 5; what++) {
            due(10, "behind(0, " + what + ")", x.behind(0, what), wants[what]);
        }
        said(x, "A@g...1>.1>.1>.1?A");
        int[] later = {0, 20, HailNames.NONE, 0, 0};
        for (int what = 0; what < 5; what++) {
            due(10, "behind(0, " + what + ") when it is read", x.behind(0, what), later[what]);
        }
        due(10, "nothing is DONE in fact", x.told(10), 20);
    }

    private static void reads() {
        HailNames x = fresh("1");
        due(11, "reads(4, 9)", x.reads(4, 9), HailNames.UNKNOWN);
        due(11, "reads(0, 4)", x.reads(0, 4), HailNames.OUTSIDE);
        due(11, "reads(0, -1)", x.reads(0, -1), HailNames.OUTSIDE);
        due(11, "reads(0, 0)", x.reads(0, 0), HailNames.NO);
        due(11, "reads(0, 0)", said(x, "0<").reads(0, 0), HailNames.STATE);
        x.person(0, 9, 0);
        x.person(1, 10, 0);
        x.person(2, 99, 0);
        x.person(3, 99, 0);
        due(11, "a FIGURE of 9 stuns nobody", said(x, "A@a").reads(0, 1), 0);
        due(11, "a FIGURE of 10 does", said(x, "B@a").reads(0, 1), 1);
        due(11, "he may not", x.reads(0, 3), 0);
        due(11, "9 at most", said(x, "B@aC@aD@a").reads(0, 1), 9);
        due(11, "others are not", x.reads(1, 1), 0);
        due(11, "a second less", said(x, "B@aC@aD@a.").reads(0, 1), 8);
        said(x, "A@a0?A");
        due(11, "READ", x.reads(0, 2), 1);
        due(11, "has done something", x.reads(0, 3), 0);
        due(11, "may again", said(x, "A@a0?A.0>").reads(0, 0), 1);
        due(11, "may again", said(x, "A@a0?A.").reads(0, 3), 1);
    }

    private static void yard() {
        HailNames x = fresh("?");
        due(12, "yard(-1)", x.yard(-1), HailNames.OUTSIDE);
        due(12, "yard(4)", x.yard(4), HailNames.OUTSIDE);
        due(12, "yard(0)", x.yard(0), HailNames.NO);
        due(12, "yard(0)", said(x, "A@a").yard(0), HailNames.STATE);
        x.person(0, 5, 1);
        x.person(6, 3, 8);
        x.person(7, 2, 8);
        said(x, "A@bG@bH@c..");
        due(12, "yard(0)", x.yard(0), 2);
        due(12, "yard(1)", x.yard(1), 65);
        due(12, "yard(2)", x.yard(2), 8);
        due(12, "yard(3)", x.yard(3), 6);
    }

    private static void lost() {
        HailNames x = fresh("A>");
        due(13, "lost(2)", x.lost(2), HailNames.OUTSIDE);
        due(13, "lost(-1)", x.lost(-1), HailNames.OUTSIDE);
        due(13, "lost(0)", x.lost(0), HailNames.NO);
        due(13, "lost(1)", said(x, "A>A").lost(1), HailNames.STATE);
        x.stone(5, 0, 4, 9);
        x.stone(3, 1, 3, 9);
        x.stone(1, 2, 5, 9);
        x.melt(2);
        due(13, "lost(0)", said(x, ".").lost(0), HailNames.NONE);
        due(13, "lost(1)", x.lost(1), HailNames.NONE);
        said(x, ".A>B..");
        due(13, "lost(0)", x.lost(0), 2);
        due(13, "lost(1)", x.lost(1), 3);
        due(13, "judge(2)", x.judge(2), 3);
        due(13, "a STONE that is read is not LOST", said(x, "0?F").judge(2), 0);
        due(13, "SIZE less by MELT leaves 1", said(x, "..").behind(1, 3), 1);
    }

    private static void done() {
        HailNames x = fresh("0");
        due(14, "done() of a FAULT", x.done(), HailNames.NO);
        due(14, "the PAD stays", x.told(0), 1);
        due(14, "done()", said(x, "A>B0<").done(), HailNames.STATE);
        due(14, "nothing is done", x.told(11), 0);
        due(14, "the PAD stays", x.told(0), 5);
        due(14, "done()", said(x, "A>B0>.").done(), 3);
        due(14, "COUNT", x.told(11), 1);
        due(14, "his CELL", x.told(60), 1);
        due(14, "the second", x.told(1), 1);
        due(14, "the PAD is empty", x.told(0), 0);
        due(14, "done() of nothing", x.done(), 0);
    }

    private static void plan() {
        HailNames x = new HailNames();
        due(15, "plan(4, 5)", x.plan(4, 5), HailNames.UNKNOWN);
        due(15, "plan(-1, 0)", x.plan(-1, 0), HailNames.UNKNOWN);
        due(15, "plan(0, 2)", x.plan(0, 2), HailNames.OUTSIDE);
        due(15, "plan(0, -1)", x.plan(0, -1), HailNames.OUTSIDE);
        x.stone(4, 2, 2, 50);
        due(15, "it melts as he comes", x.plan(0, 0), 0);
        due(15, "of nothing", x.plan(0, 1), 0);
        x.stone(4, 2, 3, 50);
        due(15, "he comes just in time", x.plan(0, 0), 50);
        said(x, "0>").done();
        x.stone(4, 2, 2, 50);
        due(15, "he has done something in this second", x.plan(0, 0), 0);
        x.stone(4, 2, 3, 50);
        due(15, "he has done something in this second", x.plan(0, 0), 50);
        x.reader(0, 2, 3);
        due(15, "STUNNED till it is LOST", x.plan(0, 0), 0);
        x.reader(0, 2, 2);
        due(15, "STUNNED, not so long", x.plan(0, 1), 16);
        x.stone(4, -1, 0, 0);
        x.reader(0, 5, 0);
        x.stone(7, 4, 2, 9);
        x.stone(2, 6, 2, 9);
        due(15, "one of two", x.plan(0, 0), 9);
        due(15, "least as bits", x.plan(0, 1), 4);
        x.stone(2, 5, 1, 9);
        x.stone(7, 5, 1, 9);
        x.stone(0, 5, 2, 1);
        due(15, "one a second", x.plan(0, 1), 5);
    }

    private static void cover() {
        HailNames x = new HailNames();
        due(16, "cover(-1, 0)", x.cover(-1, 0), HailNames.OUTSIDE);
        due(16, "cover(12, 0)", x.cover(12, 0), HailNames.OUTSIDE);
        due(16, "cover(0, 2)", x.cover(0, 2), HailNames.OUTSIDE);
        due(16, "cover(0, 1)", x.cover(0, 1), 0);
        for (int p = 0; p < 8; p++) {
            x.stone(p, p + 4, 1, 1);
        }
        due(16, "cover(0, 0)", x.cover(0, 0), 8);
        due(16, "cover(0, 1)", x.cover(0, 1), 4080);
        due(16, "cover(1, 0)", x.cover(1, 0), 3);
        due(16, "cover(1, 1)", x.cover(1, 1), 16 + 128 + 1024);
        due(16, "cover(3, 1)", x.cover(3, 1), 2 + 256);
        due(16, "cover(11, 1)", x.cover(11, 1), 1);
        due(16, "cover(7, 1)", x.cover(7, 1), 16);
    }

    private static void seenAndForget() {
        HailNames x = new HailNames();
        due(17, "seen(16, 0, 0)", x.seen(16, 0, 0), HailNames.OUTSIDE);
        due(17, "seen(0, 0, 0)", x.seen(0, 0, 0), HailNames.OUTSIDE);
        due(17, "seen(1, -1, 0)", x.seen(1, -1, 0), HailNames.OUTSIDE);
        due(17, "seen(1, 0, -1)", x.seen(1, 0, -1), HailNames.OUTSIDE);
        for (int i = 1; i <= 8; i++) {
            due(17, "seen(15, 3, 3)", x.seen(15, 3, 3), i);
        }
        due(17, "seen(15, 3, 3)", x.seen(15, 3, 3), HailNames.FULL);
        due(17, "seen(15, 4, 3)", x.seen(15, 4, 3), HailNames.OUTSIDE);
        due(18, "forget()", x.forget(), 8);
        due(18, "forget()", x.forget(), 0);
        due(18, "nets(-1)", x.nets(-1), 81);
    }

    private static void nets() {
        HailNames x = new HailNames();
        due(19, "nets(1)", x.nets(1), 1001);
        due(19, "nets(2)", x.nets(2), 1002);
        due(19, "nets(3)", x.nets(3), 1010);
        due(19, "nets(81)", x.nets(81), HailNames.NONE);
        due(19, "nets(-2)", x.nets(-2), HailNames.NONE);
        x.seen(7, 3, 3);
        due(19, "nets(-1)", x.nets(-1), 3);
        due(19, "nets(0)", x.nets(0), 3330);
        due(19, "nets(2)", x.nets(2), 3332);
        due(19, "nets(3)", x.nets(3), HailNames.NONE);
        x.seen(8, 3, 1);
        due(19, "nobody thinks of himself", x.nets(-1), 0);
    }

    private static void ask() {
        HailNames x = new HailNames();
        due(20, "ask(-1)", x.ask(-1), HailNames.OUTSIDE);
        due(20, "ask(2)", x.ask(2), HailNames.OUTSIDE);
        x.seen(7, 3, 3);
        due(20, "ask(0)", x.ask(0), 80);
        due(20, "ask(1)", x.ask(1), 2);
        x.seen(8, 0, 1);
        due(20, "ask(0) when one is left", x.ask(0), 10);
        due(20, "ask(1) when one is left", x.ask(1), 1);
        x.seen(8, 1, 1);
        due(20, "ask(0)", x.ask(0), HailNames.NONE);
        due(20, "ask(1)", x.ask(1), HailNames.NONE);
        due(20, "ask(2)", x.ask(2), HailNames.OUTSIDE);
    }

    private static void roots() {
        HailNames x = new HailNames();
        int none = HailNames.NONE;
        int[] firsts = {none, 1, none, 1, 2, none, 1, 2, none, 1, 2, 3, none};
        for (int n = 0; n < firsts.length; n++) {
            due(21, "roots(" + n + ", 1)", x.roots(n, 1), firsts[n]);
            due(21, "roots(" + n + ", 0)", x.roots(n, 0), firsts[n] == none ? 0 : 1);
        }
        due(21, "roots(-1, 0)", x.roots(-1, 0), HailNames.OUTSIDE);
        due(21, "roots(1000, 1)", x.roots(1000, 1), HailNames.OUTSIDE);
        due(21, "roots(5, 2)", x.roots(5, 2), HailNames.OUTSIDE);
        due(21, "roots(5, -1)", x.roots(5, -1), HailNames.OUTSIDE);
    }

    private static void fraction(int n, int k, int what, long upper, long lower) {
        HailNames x = new HailNames();
        String call = "thought(" + n + ", " + k + ", " + what + ", ";
        due(22, call + "0)", x.thought(n, k, what, 0), upper);
        due(22, call + "1)", x.thought(n, k, what, 1), lower);
    }

    private static void thought() {
        fraction(2, 0, 0, 0, 1);
        fraction(2, 1, 0, 1, 1);
        fraction(2, 1, 1, 1, 1);
        fraction(2, 0, 2, 1, 1);
        fraction(3, 0, 0, 1, 4);
        fraction(3, 1, 0, 1, 2);
        fraction(3, 2, 0, 1, 4);
        fraction(3, 0, 1, 1, 4);
        fraction(3, 2, 2, 1, 4);
        fraction(4, 0, 0, 8, 27);
        fraction(4, 2, 0, 2, 9);
        fraction(4, 3, 2, 1, 9);
        fraction(12, 11, 1, 1, 121);
        long refused = HailNames.GONE + HailNames.OUTSIDE;
        HailNames x = new HailNames();
        due(22, "thought(1, 0, 0, 0)", x.thought(1, 0, 0, 0), refused);
        due(22, "thought(13, 0, 1, 0)", x.thought(13, 0, 1, 0), refused);
        due(22, "thought(4, 4, 1, 0)", x.thought(4, 4, 1, 0), refused);
        due(22, "thought(4, -1, 2, 0)", x.thought(4, -1, 2, 0), refused);
        due(22, "thought(4, 0, 3, 0)", x.thought(4, 0, 3, 0), refused);
        due(22, "thought(4, 0, -1, 0)", x.thought(4, 0, -1, 0), refused);
        due(22, "thought(4, 0, 0, 2)", x.thought(4, 0, 0, 2), refused);
        due(22, "thought(4, 0, 0, -1)", x.thought(4, 0, 0, -1), refused);
    }

    private static void storm() {
        HailNames x = new HailNames();
        due(23, "storm(-1, 1, 0)", x.storm(-1, 1, 0), HailNames.OUTSIDE);
        due(23, "storm(10000, 1, 0)", x.storm(10000, 1, 0), HailNames.OUTSIDE);
        due(23, "storm(0, 0, 0)", x.storm(0, 0, 0), HailNames.OUTSIDE);
        due(23, "storm(0, 100, 0)", x.storm(0, 100, 0), HailNames.OUTSIDE);
        due(23, "storm(0, 1, 3)", x.storm(0, 1, 3), HailNames.OUTSIDE);
        due(23, "storm(0, 1, -1)", x.storm(0, 1, -1), HailNames.OUTSIDE);
        // Seed 0: x is 74, y is 9: the STONE of B falls on CELL 1.
        due(23, "storm(0, 1, 0), nobody being thought of", x.storm(0, 1, 0), 0);
        x.person(1, 50, 6);
        due(23, "storm(0, 1, 0)", x.storm(0, 1, 0), 2);
        due(23, "storm(0, 1, 2)", x.storm(0, 1, 2), 6);
        // Seed 4: x is 374, a second.
        x.stone(0, 0, 1, 5);
        x.stone(3, 0, 2, 5);
        due(23, "storm(4, 1, 0)", x.storm(4, 1, 0), 8);
        due(23, "storm(4, 1, 1)", x.storm(4, 1, 1), 1);
        // Seed 2: x is 224, y is 28: E thinks of D; then x is 16874, y is 2109: the STONE of F falls on CELL 11.
        x.person(5, 7, 0);
        due(23, "storm(2, 2, 0)", x.storm(2, 2, 0), 9 + 32);
        x.person(5, 0, 0);
        // Seed 1: x is 149, y is 18: READER 2 reads the STONE of E.
        x.stone(4, 6, 9, 33);
        due(23, "storm(1, 1, 2)", x.storm(1, 1, 2), 39);
        due(23, "nothing is DONE in fact", x.told(3), 25);
        due(23, "nothing is DONE in fact", x.told(11), 50);
        due(23, "nothing is DONE in fact", x.told(1), 0);
    }

    private static void images() {
        HailNames x = new HailNames();
        due(24, "image(-1)", x.image(-1), HailNames.OUTSIDE);
        due(24, "image(2)", x.image(2), HailNames.OUTSIDE);
        due(25, "restore(2)", x.restore(2), HailNames.OUTSIDE);
        due(25, "restore(-1)", x.restore(-1), HailNames.OUTSIDE);
        due(25, "restore(1)", x.restore(1), HailNames.STATE);
        x.person(1, 9, 8);
        x.stone(2, 3, 44, 4);
        x.melt(3);
        x.seen(1, 1, 1);
        x.reader(2, 9, 5);
        said(x, ".1?C").done();
        x.say('A');
        due(24, "image(1)", x.image(1), 1);
        due(25, "restore(0)", x.restore(0), HailNames.STATE);
        x.person(1, 1, 1);
        x.stone(2, 4, 4, 4);
        x.melt(9);
        x.forget();
        x.seen(2, 2, 1);
        x.seen(2, 2, 1);
        x.reader(1, 1, 1);
        x.reader(2, 1, 1);
        said(x, "..").done();
        said(x, "A>B");
        due(24, "image(0)", x.image(0), 1);
        due(25, "restore(1)", x.restore(1), 1);
        int[] what = {0, 1, 2, 3, 4, 5, 11, 21, 22, 32, 61, 62, 72, 81};
        int[] wants = {3, 1, 3, 0, 9, 1, 9, 8, 4, HailNames.NONE, 3, 9, 4, 1};
        for (int i = 0; i < what.length; i++) {
            due(25, "told(" + what[i] + ")", x.told(what[i]), wants[i]);
        }
        due(25, "nets(-1)", x.nets(-1), 27);
        due(25, "restore(0)", x.restore(0), 1);
        due(25, "told(1)", x.told(1), 3);
        due(25, "told(5)", x.told(5), 2);
        due(25, "told(4)", x.told(4), 15);
    }

    private static void told() {
        HailNames x = new HailNames();
        x.person(7, 11, 12);
        x.stone(7, 8, 13, 14);
        x.reader(3, 7, 6);
        x.seen(3, 3, 0);
        x.melt(5);
        said(x, "2>.").done();
        said(x, "xyz");
        int[] what = {0, 1, 2, 3, 4, 5, 17, 27, 37, 47, 57, 63, 73, 83};
        int[] wants = {3, 1, 5, 128, 7, 1, 11, 12, 8, 8, 14, 7, 5, 0};
        for (int i = 0; i < what.length; i++) {
            due(26, "told(" + what[i] + ")", x.told(what[i]), wants[i]);
        }
        int[] outside = {-1, 6, 9, 18, 19, 28, 38, 48, 58, 59, 64, 69, 74, 84, 89, 90, 100, -10,
            Integer.MAX_VALUE, Integer.MIN_VALUE};
        for (int i = 0; i < outside.length; i++) {
            due(26, "told(" + outside[i] + ")", x.told(outside[i]), HailNames.OUTSIDE);
        }
    }
}
