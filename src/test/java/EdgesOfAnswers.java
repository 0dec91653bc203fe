/** The edges of plans, covers, nets, heaps, thoughts, storms by draws and images: empty, full, just in time, of as much. */
public final class EdgesOfAnswers extends HailTest {
    public static void main(String[] args) {
        planOfNothing();
        planJustInTime();
        planAsSoonAsHeMay();
        planOneASecond();
        planInEachOrder();
        planLeastAsBits();
        planAtTheLastSecond();
        planOfHimAlone();
        coverOfNothing();
        coverDistances();
        coverFewest();
        coverLeastAsBits();
        netsAll();
        netsBySights();
        netsWithoutAny();
        askEdges();
        rootsEdges();
        thoughtEdges();
        stormDraws();
        stormActsThatCanNotBe();
        stormLengths();
        stormNotedOfAll();
        stormChangesNothing();
        imagesKeepAll();
        imagesApart();
        imagesKeepSights();
        tellAndExit();
    }

    private static HailNames withReader(int cell, int stunned) {
        HailNames x = new HailNames();
        x.reader(0, cell, stunned);
        return x;
    }

    // ---- plan

    private static void planOfNothing() {
        for (int r = 0; r < 4; r++) {
            due(15, "FIGURES when none lies", new HailNames().plan(r, 0), 0);
            due(15, "whose when none lies", new HailNames().plan(r, 1), 0);
        }
        HailNames x = new HailNames();
        x.person(0, 99, 99);
        due(15, "what has not fallen is none", x.plan(0, 0), 0);
        x.stone(0, 11, 1, 99);
        due(15, "FIGURES when all melt ere he comes", x.plan(0, 0), 0);
        due(15, "whose when all melt ere he comes", x.plan(0, 1), 0);
    }

    /** "Ere they are LOST": after t seconds, a STONE lies if its SIZE is more than t times MELT. */
    private static void planJustInTime() {
        for (int melt = 1; melt <= 9; melt++) {
            for (int way = 0; way < 12 && way * melt < 99; way++) {
                HailNames x = withReader(0, 0);
                x.melt(melt);
                x.stone(5, way, way * melt + 1, 40);
                due(15, way + " CELLS, MELT " + melt + ", just in time", x.plan(0, 0), 40);
                due(15, "whose", x.plan(0, 1), 32);
                if (way > 0) {
                    x.stone(5, way, way * melt, 40);
                    due(15, way + " CELLS, MELT " + melt + ", a second late", x.plan(0, 0), 0);
                }
                x.reader(0, 11, 0);
                x.stone(5, 11 - way, way * melt + 1, 40);
                due(15, way + " CELLS down, just in time", x.plan(0, 1), 32);
            }
        }
    }

    /** "As soon as he may": STUNNED, or having done something in this second. */
    private static void planAsSoonAsHeMay() {
        for (int stunned = 0; stunned <= 9; stunned++) {
            HailNames x = withReader(4, stunned);
            x.stone(0, 4, stunned + 1, 7);
            due(15, "STUNNED for " + stunned + ", just in time", x.plan(0, 0), 7);
            if (stunned > 0) {
                x.stone(0, 4, stunned, 7);
                due(15, "STUNNED for " + stunned + ", a second late", x.plan(0, 0), 0);
            }
        }
        HailNames x = after(new HailNames(), "0>");
        x.stone(0, 1, 1, 7);
        due(15, "he has gone in this second", x.plan(0, 0), 0);
        x.stone(0, 1, 2, 7);
        due(15, "he may in the next", x.plan(0, 0), 7);
        x.reader(0, 1, 0);
        x.stone(0, 1, 1, 7);
        due(15, "he has done nothing, being put there", x.plan(0, 0), 7);
        x.person(1, 20, 0);
        x.stone(0, 2, 2, 7);
        after(x, "0>B@c");
        due(15, "STUNNED for 2, having gone, SIZE 2", x.plan(0, 1), 2);
        x.stone(0, 2, 3, 30);
        x.stone(1, 2, 3, 20);
        due(15, "STUNNED for 2, having gone, SIZE 3", x.plan(0, 1), 1);
    }

    /** "Each second he goes a CELL, or reads one". */
    private static void planOneASecond() {
        HailNames x = withReader(3, 0);
        for (int p = 0; p < 8; p++) {
            x.stone(p, 3, p + 1, 99);
        }
        due(15, "8 on one CELL, each just in time", x.plan(0, 0), 792);
        due(15, "whose", x.plan(0, 1), 255);
        x.stone(7, 3, 7, 99);
        due(15, "the last a second late", x.plan(0, 0), 693);
        due(15, "least as bits of as much", x.plan(0, 1), 127);
        x = withReader(5, 0);
        x.stone(0, 4, 2, 10);
        x.stone(1, 6, 5, 10);
        due(15, "one, then back and the other, just in time", x.plan(0, 1), 3);
        x.stone(1, 6, 4, 10);
        due(15, "a second late for the other", x.plan(0, 1), 1);
        x = withReader(0, 0);
        x.stone(1, 1, 2, 5);
        x.stone(0, 11, 13, 3);
        x.stone(2, 0, 25, 1);
        due(15, "there, and all the way back just in time", x.plan(0, 1), 7);
        x.stone(2, 0, 24, 1);
        due(15, "there, and all the way back a second late", x.plan(0, 1), 3);
        x.stone(0, 11, 16, 3);
        due(15, "back first, and there just in time", x.plan(0, 1), 7);
        x.stone(0, 11, 15, 3);
        due(15, "back first, and there a second late", x.plan(0, 1), 3);
        x.stone(0, 11, 12, 3);
        due(15, "there just in time, but for so little", x.plan(0, 1), 6);
    }

    /** The one that melts first must be read first, whosever it is. */
    private static void planInEachOrder() {
        for (int first = 0; first < 8; first++) {
            for (int then = 0; then < 8; then++) {
                if (first != then) {
                    HailNames x = withReader(5, 0);
                    x.stone(first, 4, 2, 10);
                    x.stone(then, 6, 5, 10);
                    due(15, first + ", then " + then + " just in time", x.plan(0, 1), (1 << first) + (1 << then));
                    x.stone(then, 6, 4, 10);
                    due(15, first + " or " + then, x.plan(0, 1), 1 << Math.min(first, then));
                }
            }
        }
        HailNames x = withReader(3, 0);
        for (int p = 0; p < 8; p++) {
            x.stone(p, 3, 8 - p, 99);
        }
        due(15, "8 on one CELL, the greatest first", x.plan(0, 1), 255);
    }

    private static void planLeastAsBits() {
        for (int p = 0; p < 8; p++) {
            HailNames x = withReader(0, 0);
            x.stone(p, 0, 1, 1);
            due(15, "one of the least SIZE and FIGURE", x.plan(0, 0), 1);
            due(15, "whose", x.plan(0, 1), 1 << p);
        }
        HailNames x = withReader(5, 0);
        x.stone(3, 4, 2, 9);
        x.stone(6, 6, 2, 9);
        due(15, "of as much the least", x.plan(0, 1), 8);
        x.stone(6, 6, 2, 10);
        due(15, "by one more", x.plan(0, 1), 64);
        x.stone(6, 6, 2, 9);
        x.stone(0, 6, 4, 1);
        due(15, "with one more of 1", x.plan(0, 1), 65);
        x.stone(3, 4, 2, 10);
        due(15, "of as much again, one being less than two", x.plan(0, 0), 10);
        due(15, "8 is less than 65", x.plan(0, 1), 8);
    }

    /** "That it may be second 99 is no matter". */
    private static void planAtTheLastSecond() {
        HailNames x = fresh(".".repeat(60));
        x.done();
        after(x, ".".repeat(39));
        due(26, "the second", x.told(1), 99);
        x.stone(0, 11, 12, 50);
        due(15, "FIGURES", x.plan(0, 0), 50);
        x.stone(0, 11, 11, 50);
        due(15, "it melts all the same", x.plan(0, 0), 0);
    }

    /** "Nothing else being done but by him, and nothing more falling". */
    private static void planOfHimAlone() {
        HailNames x = withReader(0, 0);
        x.reader(1, 1, 0);
        x.stone(0, 1, 2, 50);
        x.person(1, 99, 0);
        due(15, "another is nearer", x.plan(0, 0), 50);
        due(15, "for him too", x.plan(1, 0), 50);
        said(x, "1?A");
        due(15, "the text is no matter", x.plan(0, 0), 50);
        due(15, "nor a FAULT", said(x, "1?").plan(0, 0), 50);
        due(15, "nothing is DONE", x.told(60), 0);
        due(15, "nothing melts", x.told(40), 2);
    }

    // ---- cover

    private static void coverOfNothing() {
        HailNames x = new HailNames();
        for (int d = 0; d < 12; d++) {
            due(16, "how many of nothing, d " + d, x.cover(d, 0), 0);
            due(16, "which of nothing, d " + d, x.cover(d, 1), 0);
        }
        x.person(0, 9, 9);
        due(16, "what has not fallen is none", x.cover(0, 0), 0);
    }

    /** "No more than d CELLS off": for one STONE, and for two on either side of what one CELL can be near to. */
    private static void coverDistances() {
        for (int d = 0; d < 12; d++) {
            for (int cell = 0; cell < 12; cell++) {
                HailNames x = new HailNames();
                x.stone(7, cell, 1, 1);
                due(16, "one on " + cell + ", d " + d, x.cover(d, 0), 1);
                due(16, "the least CELL, d " + d, x.cover(d, 1), 1 << Math.max(0, cell - d));
                x.stone(0, 0, 1, 1);
                due(16, "on 0 and " + cell + ", d " + d, x.cover(d, 0), cell <= 2 * d ? 1 : 2);
                x.stone(0, 11, 1, 1);
                due(16, "on 11 and " + cell + ", d " + d, x.cover(d, 0), 11 - cell <= 2 * d ? 1 : 2);
            }
        }
    }

    private static void coverFewest() {
        HailNames x = new HailNames();
        for (int p = 0; p < 8; p++) {
            x.stone(p, p, 1, 1);
            due(16, "one on each, d 0", x.cover(0, 0), p + 1);
            due(16, "which", x.cover(0, 1), (2 << p) - 1);
        }
        due(16, "8 in a row, d 1", x.cover(1, 0), 3);
        due(16, "8 in a row, d 3", x.cover(3, 0), 2);
        due(16, "8 in a row, d 4", x.cover(4, 0), 1);
        due(16, "8 in a row, d 4, which", x.cover(4, 1), 8);
        for (int p = 0; p < 8; p++) {
            x.stone(p, 11, 1, 1);
        }
        due(16, "8 on one CELL, d 0", x.cover(0, 0), 1);
        due(16, "which", x.cover(0, 1), 2048);
        due(16, "8 on the last CELL, d 11", x.cover(11, 1), 1);
        due(16, "8 on the last CELL, d 10", x.cover(10, 1), 2);
    }

    private static void coverLeastAsBits() {
        HailNames x = new HailNames();
        x.stone(0, 0, 1, 1);
        x.stone(1, 11, 1, 1);
        due(16, "on 0 and 11, d 5, how many", x.cover(5, 0), 2);
        due(16, "on 0 and 11, d 5, which", x.cover(5, 1), 1 + 64);
        due(16, "on 0 and 11, d 6, how many", x.cover(6, 0), 1);
        due(16, "on 0 and 11, d 6, which", x.cover(6, 1), 32);
        due(16, "on 0 and 11, d 11, which", x.cover(11, 1), 1);
        x.stone(2, 2, 1, 1);
        due(16, "on 0, 2 and 11, d 1, which", x.cover(1, 1), 2 + 1024);
        x.stone(2, 5, 1, 1);
        due(16, "on 0, 5 and 11, d 2, which: three, not two", x.cover(2, 1), 1 + 8 + 512);
        due(16, "on 0, 5 and 11, d 3, which: 5 goes with 11", x.cover(3, 1), 1 + 256);
    }

    // ---- nets, ask

    private static void netsAll() {
        HailNames x = new HailNames();
        due(19, "how many", x.nets(-1), 81);
        int i = 0;
        for (int net = 0; net < 10000; net++) {
            int[] of = {net / 1000, net / 100 % 10, net / 10 % 10, net % 10};
            boolean can = true;
            for (int who = 0; who < 4; who++) {
                can &= of[who] < 4 && of[who] != who;
            }
            if (can) {
                due(19, "nets(" + i + ")", x.nets(i), net);
                i++;
            }
        }
        due(19, "nets(81)", x.nets(81), NONE);
        due(19, "nets(-2)", x.nets(-2), NONE);
    }

    private static void netsBySights() {
        HailNames x = new HailNames();
        due(18, "forget() of nothing", x.forget(), 0);
        x.seen(15, 0, 0);
        due(19, "none thinks of 0: how many", x.nets(-1), 3 * 2 * 2 * 2);
        due(19, "the first", x.nets(0), 1211);
        due(19, "the last", x.nets(23), 3332);
        due(19, "beyond the last", x.nets(24), NONE);
        x.forget();
        x.seen(15, 3, 3);
        due(19, "all think of 3: how many", x.nets(-1), 3);
        due(19, "the last", x.nets(2), 3332);
        due(19, "beyond the last", x.nets(3), NONE);
        x.forget();
        x.seen(8, 0, 1);
        due(19, "a set of the last alone", x.nets(0), 1000);
        due(19, "how many", x.nets(-1), 27);
        x.seen(1, 3, 1);
        due(19, "a set of the first alone", x.nets(0), 3000);
        due(19, "how many", x.nets(-1), 9);
        x.seen(8, 0, 1);
        due(19, "the same again", x.nets(-1), 9);
        due(26, "SIGHTS", x.told(5), 3);
        due(18, "forget()", x.forget(), 3);
        due(18, "all fit again", x.nets(-1), 81);
        due(18, "forget() again", x.forget(), 0);
    }

    /** Of 8 SIGHTS the last counts too; what can not be fits nothing. */
    private static void netsWithoutAny() {
        HailNames x = new HailNames();
        for (int i = 0; i < 7; i++) {
            x.seen(15, 0, 0);
        }
        due(17, "the 8th", x.seen(1, 0, 1), 8);
        due(19, "none fits: how many", x.nets(-1), 0);
        due(19, "none fits: the first", x.nets(0), NONE);
        due(20, "none fits: what", x.ask(0), NONE);
        due(20, "none fits: how many", x.ask(1), NONE);
        due(17, "the 9th", x.seen(15, 0, 0), FULL);
        due(18, "forget() of 8", x.forget(), 8);
        due(17, "there is room for 8 again", x.seen(3, 2, 2), 1);
        x.forget();
        x.seen(3, 0, 3);
        due(19, "three of two", x.nets(-1), 0);
    }

    private static void askEdges() {
        HailNames x = new HailNames();
        due(20, "of all 81: how many", x.ask(1), 36);
        for (int i = 0; i < 8; i++) {
            x.seen(15, 0, 3);
        }
        due(20, "with 8 SIGHTS: what", x.ask(0), 11);
        due(20, "with 8 SIGHTS: how many", x.ask(1), 2);
        x.forget();
        x.seen(15, 0, 3);
        x.seen(1, 3, 1);
        due(20, "one left: the least there is", x.ask(0), 10);
        due(20, "one left: how many", x.ask(1), 1);
        x.forget();
        x.seen(7, 3, 3);
        x.seen(8, 2, 0);
        due(20, "two left, of whom 3 thinks: what", x.ask(0), 80);
        due(20, "two left: how many", x.ask(1), 1);
    }

    // ---- roots, thoughts

    /** "Take 1 at least, and no more than the whole root of what there is; who can not has lost". */
    private static void rootsEdges() {
        HailNames x = new HailNames();
        due(21, "of 0 he can not", x.roots(0, 0), 0);
        due(21, "of 0 he takes", x.roots(0, 1), NONE);
        due(21, "of 1 he wins", x.roots(1, 0), 1);
        due(21, "of 1 he takes", x.roots(1, 1), 1);
        due(21, "of 2 he must leave 1", x.roots(2, 1), NONE);
        int[] lost = {0, 2, 5, 8, 12, 17, 22, 28, 34, 41, 48, 56, 65, 74, 84, 94};
        for (int i = 0; i + 1 < lost.length; i++) {
            for (int n = lost[i]; n < lost[i + 1]; n++) {
                due(21, "roots(" + n + ", 0)", x.roots(n, 0), n == lost[i] ? 0 : 1);
                due(21, "roots(" + n + ", 1)", x.roots(n, 1), n == lost[i] ? NONE : n - lost[i]);
            }
        }
        due(21, "of 960 he has lost", x.roots(960, 0), 0);
        due(21, "of 991 he takes all that he may", x.roots(991, 1), 31);
        due(21, "of 992 he has lost", x.roots(992, 0), 0);
        due(21, "of 999 he takes", x.roots(999, 1), 7);
    }

    private static void thoughtIs(int n, int k, int what, long upper, long lower) {
        String call = "thought(" + n + ", " + k + ", " + what + ", ";
        due(22, call + "0)", new HailNames().thought(n, k, what, 0), upper);
        due(22, call + "1)", new HailNames().thought(n, k, what, 1), lower);
    }

    /** Lowest terms: that it can not be is 0 by 1, that it must be is 1 by 1. */
    private static void thoughtEdges() {
        thoughtIs(2, 0, 0, 0, 1);
        thoughtIs(2, 1, 0, 1, 1);
        thoughtIs(2, 0, 1, 1, 1);
        thoughtIs(2, 1, 1, 1, 1);
        thoughtIs(2, 0, 2, 1, 1);
        thoughtIs(2, 1, 2, 1, 1);
        thoughtIs(3, 0, 0, 1, 4);
        thoughtIs(3, 1, 0, 1, 2);
        thoughtIs(3, 0, 2, 1, 4);
        thoughtIs(4, 1, 0, 4, 9);
        thoughtIs(4, 0, 2, 1, 9);
        thoughtIs(5, 0, 2, 11, 256);
        thoughtIs(12, 0, 0, 100000000000L, 285311670611L);
        thoughtIs(12, 1, 0, 10000000000L, 25937424601L);
        thoughtIs(12, 10, 0, 10, 25937424601L);
        thoughtIs(12, 11, 0, 1, 285311670611L);
        thoughtIs(12, 0, 1, 1, 121);
        thoughtIs(12, 11, 1, 1, 121);
        thoughtIs(12, 11, 2, 1456321L, 25937424601L);
    }

    // ---- storms by draws

    /** Each kind of draw, by a seed whose first draws tell of it; beside it stands x, x by 8 (cut), and the act. */
    private static void stormDraws() {
        HailNames x = new HailNames();
        // 576, 72: A>B; 43274, 5409: B@e.
        due(23, "left over 0: one thinks, the other falls", x.storm(3502, 2, 0), 2);
        // 3201, 400: A>C; 43538, 5442: C@i.
        due(23, "left over 1: one thinks, the other falls", x.storm(3537, 2, 0), 4);
        // 38050, 4756: E@g; 35733, 4466: 2?E.
        x.person(4, 9, 0);
        due(23, "left over 2, 5: it falls where he stands and is read", x.storm(2254, 2, 2), 9);
        due(23, "it lies no more", x.storm(2254, 2, 0), 0);
        due(23, "it was not LOST", x.storm(2254, 2, 1), 0);
        stormSteps();
        x = new HailNames();
        x.stone(0, 0, 1, 9);
        // 374: a second; 599: a second.
        due(23, "left over 6", x.storm(4, 1, 1), 1);
        due(23, "left over 7", x.storm(7, 1, 1), 1);
        stormWrapsRound();
    }

    private static void stormSteps() {
        HailNames x = new HailNames();
        // 32787, 4098: 2>; 34230: a second; 11381, 1422: 2?D.
        x.stone(3, 7, 9, 30);
        due(23, "left over 3, 1 more", x.storm(1310, 3, 2), 30);
        // 46587, 5823: 3<; 20638: a second; 40573, 5071: 3?D.
        x.stone(3, 8, 9, 31);
        due(23, "left over 3, 1 less", x.storm(1494, 3, 2), 31);
        x = new HailNames();
        // 21524, 2690: 2>; 41486: a second; 31285, 3910: 2?B.
        x.stone(1, 7, 9, 32);
        due(23, "left over 4, 1 more", x.storm(286, 3, 2), 32);
        // 7724, 965: 1<; 55078: a second; 2093, 261: 1?B.
        x.stone(1, 2, 9, 33);
        due(23, "left over 4, 1 less", x.storm(102, 3, 2), 33);
    }

    /** 75 times 872 and 74 is the last that is left as it is: 65474, 8184, A@d; the next seed's is 12. */
    private static void stormWrapsRound() {
        HailNames x = new HailNames();
        x.person(0, 1, 0);
        due(23, "seed 872", x.storm(872, 1, 0), 1);
        // 65549 leaves 12, 1: 1>; 974: a second. So a STONE of SIZE 1 is LOST by the second draw alone.
        x.stone(7, 0, 1, 1);
        due(23, "seed 873, the first", x.storm(873, 1, 1), 0);
        due(23, "seed 873, the second", x.storm(873, 2, 1), 1);
        // 65699 leaves 162, 20: E@c.
        x.person(4, 1, 0);
        due(23, "seed 875", x.storm(875, 1, 0), 128 + 16);
        // Seed 0: 74, 9: B@b. Seed 9999: 749999 leaves 29092, 3636: 0<; 19253, 2406: 2?B.
        x.person(1, 1, 0);
        due(23, "the least seed", x.storm(0, 1, 0), 128 + 2);
        x.stone(1, 6, 9, 44);
        due(23, "the greatest seed, the first", x.storm(9999, 1, 2), 0);
        due(23, "the greatest seed, the second", x.storm(9999, 2, 2), 44);
    }

    /** "Each if that can be": for each of the eight reasons a draw that can not. */
    private static void stormActsThatCanNotBe() {
        // 63488, 7936: A>A; 43010, 5376: A@a.
        due(23, "1, so nothing falls", new HailNames().storm(3467, 2, 0), 0);
        // 21664, 2708: E>C; 51986, 6498: C@i; 32341, 4042: 2?C.
        HailNames x = new HailNames();
        x.reader(2, 8, 0);
        x.person(2, 8, 0);
        due(23, "COUNT 8 and 1 more", x.storm(4657, 3, 2), 9);
        x.person(2, 99, 0);
        due(23, "2, and he is STUNNED by it", x.storm(4657, 3, 0), 4);
        due(23, "5, so it is not read", x.storm(4657, 3, 2), 0);
        // 74, 9: B@b.
        due(23, "3, so nothing falls", new HailNames().storm(0, 1, 0), 0);
        // 1874, 234: C@f; 9550: a second.
        x = new HailNames();
        x.stone(2, 0, 1, 1);
        x.person(2, 50, 0);
        due(23, "4, so the old one melts", x.storm(24, 2, 1), 1);
        due(23, "4, so nothing lies", x.storm(24, 2, 0), 0);
        // 5699, 712: 0>; 34277, 4284: 0?H.
        x = new HailNames();
        x.stone(7, 1, 9, 9);
        due(23, "5, having done something", x.storm(75, 2, 2), 0);
        // The same, on the last CELL: he has done nothing, so he may read.
        x.reader(0, 11, 0);
        x.stone(7, 11, 9, 9);
        due(23, "6, 1 more", x.storm(75, 2, 2), 9);
        // 15524, 1940: 0<; 50245, 6280: 0?C.
        x.reader(0, 0, 0);
        x.stone(2, 0, 9, 8);
        due(23, "6, 1 less", x.storm(206, 2, 2), 8);
        x.stone(2, 1, 9, 8);
        due(23, "7, so it is not read", x.storm(206, 2, 2), 0);
        stormAtTheLastSecond();
    }

    private static void stormAtTheLastSecond() {
        HailNames x = fresh(".".repeat(60));
        x.done();
        after(x, ".".repeat(38));
        // 599: a second; 44999: a second.
        x.stone(0, 0, 2, 1);
        due(23, "second 98: one can be, the next can not", x.storm(7, 2, 1), 0);
        x.stone(0, 0, 1, 1);
        due(23, "second 98: one can be", x.storm(7, 1, 1), 1);
        after(x, ".");
        x.stone(0, 0, 1, 1);
        due(23, "8, so nothing is LOST", x.storm(7, 2, 1), 0);
        due(23, "8, so it lies", x.storm(7, 2, 0), 1);
    }

    /** "m ACTS (1 to 99)": seed 35's 99th draw is 28282, 3535: H@j, and none ahead of it is a fall of H's. */
    private static void stormLengths() {
        HailNames x = new HailNames();
        x.person(7, 1, 0);
        due(23, "98 draws: H's", x.storm(35, 98, 0) >> 7, 0);
        due(23, "99 draws: H's", x.storm(35, 99, 0) >> 7, 1);
        // Seed 0: 74, 9: B@b.
        x.person(1, 1, 0);
        due(23, "1 draw: B's alone", x.storm(0, 1, 0), 2);
    }

    /** "NOTED of all added", by a storm of one draw that can not be: 74, 9: B@b. */
    private static void stormNotedOfAll() {
        HailNames x = new HailNames();
        due(23, "nothing NOTED", x.storm(0, 1, 2), 0);
        for (int p = 0; p < 8; p++) {
            x.person(p, 0, 99);
            due(23, "NOTED of the first " + (p + 1), x.storm(0, 1, 2), 99 * (p + 1));
        }
    }

    /** "Nothing is DONE in fact"; "from all as it is": not from the text. */
    private static void stormChangesNothing() {
        HailNames x = new HailNames();
        x.stone(0, 0, 1, 9);
        said(x, ".");
        due(23, "LOST", x.storm(7, 2, 1), 1);
        due(23, "it lies in fact", x.told(3), 1);
        due(23, "it is second 0 in fact", x.told(1), 0);
        due(23, "the PAD is as it was", x.told(0), 1);
        due(23, "LOST, once more", x.storm(7, 2, 1), 1);
        due(9, "the text's own", x.judge(2), 1);
        due(23, "a FAULT is no matter", said(x, "A").storm(7, 2, 1), 1);
        after(x, "0>");
        // 5699, 712: 0>; 34277, 4284: 0?H.
        x.reader(0, 11, 0);
        x.stone(7, 11, 9, 9);
        due(23, "he may", x.storm(75, 2, 2), 9);
        after(x, "0<");
        x.stone(7, 10, 9, 9);
        due(23, "he has done something in this second", x.storm(75, 2, 2), 0);
    }

    // ---- images

    private static int[] toldOfAll(HailNames x) {
        int[] all = new int[90];
        for (int what = 1; what < 90; what++) {
            all[what] = x.told(what);
        }
        return all;
    }

    private static void sameAll(String when, int[] got, int[] want) {
        for (int what = 1; what < 90; what++) {
            due(25, when + ", told(" + what + ")", got[what], want[what]);
        }
    }

    private static HailNames filled() {
        HailNames x = new HailNames();
        for (int p = 0; p < 8; p++) {
            x.person(p, 90 + p, 80 + p);
            x.stone(p, 11 - p, 70 + p, 60 + p);
        }
        after(x, "3?C.2>");
        x.reader(0, 5, 7);
        x.reader(1, 4, 9);
        x.melt(8);
        x.seen(7, 3, 2);
        x.seen(1, 3, 1);
        return x;
    }

    /** "All but the PAD is kept"; "it is as it was when it was kept". */
    private static void imagesKeepAll() {
        for (int k = 0; k < 2; k++) {
            int[] empty = toldOfAll(new HailNames());
            HailNames x = filled();
            int[] full = toldOfAll(x);
            int nets = x.nets(-1);
            due(24, "image(" + k + ")", x.image(k), 1);
            emptied(x);
            due(25, "signs", x.told(0), 3);
            sameAll("emptied", toldOfAll(x), emptiedOf(empty));
            due(25, "restore(" + k + ")", x.restore(k), 1);
            sameAll("restored", toldOfAll(x), full);
            due(25, "the PAD is not, signs", x.told(0), 3);
            due(25, "the PAD is not, its text", x.fault(), 1);
            due(25, "NETS", x.nets(-1), nets);
        }
    }

    private static void emptied(HailNames x) {
        for (int p = 0; p < 8; p++) {
            x.person(p, 0, 0);
            x.stone(p, -1, 0, 0);
        }
        for (int r = 0; r < 4; r++) {
            x.reader(r, 3 * r, 0);
        }
        x.melt(1);
        x.forget();
        said(x, "A!!");
    }

    /** Two things can be set back by no call: the second, and what READER 3 has READ. */
    private static int[] emptiedOf(int[] empty) {
        int[] all = empty.clone();
        all[1] = 1;
        all[83] = 1;
        return all;
    }

    private static void imagesApart() {
        HailNames x = new HailNames();
        x.image(0);
        x.person(0, 1, 1);
        x.seen(1, 1, 1);
        x.image(1);
        x.person(0, 2, 2);
        x.seen(2, 2, 1);
        due(25, "restore(0)", x.restore(0), 1);
        due(25, "COUNT", x.told(10), 0);
        due(25, "SIGHTS", x.told(5), 0);
        due(25, "restore(1)", x.restore(1), 1);
        due(25, "COUNT", x.told(10), 1);
        due(25, "SIGHTS", x.told(5), 1);
        due(19, "NETS", x.nets(-1), 27);
        x.person(0, 3, 3);
        x.forget();
        x.seen(1, 2, 0);
        due(25, "restore(1), once more", x.restore(1), 1);
        due(25, "what came after is no matter, COUNT", x.told(10), 1);
        due(25, "what came after is no matter, NETS", x.nets(-1), 27);
        due(24, "image(0), kept anew", x.image(0), 1);
        x.person(0, 4, 4);
        due(25, "restore(0)", x.restore(0), 1);
        due(25, "COUNT of the new one", x.told(10), 1);
        after(x, "0>.");
        due(25, "restore(0)", x.restore(0), 1);
        due(25, "the second", x.told(1), 0);
        after(x, "0>");
        x.image(0);
        after(x, ".");
        x.restore(0);
        due(25, "he has done something in this second", x.told(4), 14);
        due(25, "the reason", said(x, "0<").judge(1), 5);
    }

    /** The set, p and k of each SIGHT, also of 8, though others were seen since. */
    private static void imagesKeepSights() {
        HailNames x = new HailNames();
        x.seen(1, 1, 1);
        x.image(0);
        x.forget();
        x.seen(2, 2, 0);
        x.image(1);
        due(25, "restore(0)", x.restore(0), 1);
        due(19, "0 thinks of 1: how many", x.nets(-1), 27);
        due(19, "0 thinks of 1: the last", x.nets(26), 1332);
        due(25, "restore(1)", x.restore(1), 1);
        due(19, "1 does not think of 2: how many", x.nets(-1), 54);
        due(19, "1 does not think of 2: the last", x.nets(53), 3332);
        for (int i = 2; i <= 7; i++) {
            x.seen(1, 3, 1);
        }
        x.seen(8, 1, 1);
        x.image(0);
        x.forget();
        for (int i = 1; i <= 8; i++) {
            x.seen(4, 0, 1);
        }
        x.restore(0);
        due(26, "8 SIGHTS", x.told(5), 8);
        due(19, "the last counts: how many", x.nets(-1), 6);
        due(19, "the last counts: the first", x.nets(0), 3001);
        due(17, "there is no room for more", x.seen(1, 1, 1), FULL);
    }
}
