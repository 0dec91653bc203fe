/** The edges of texts: what the pad holds, which sign can stand where, what each act does and when it can not be. */
public final class EdgesOfStorms extends HailTest {
    private static final String PEOPLE = "ABCDEFGH";
    private static final String CELLS = "abcdefghijkl";
    private static final String READERS = "0123";

    public static void main(String[] args) {
        padFullAndEmpty();
        signsThatCanStand();
        moreMustCome();
        theFirstFault();
        thoughts();
        falls();
        stunning();
        steps();
        readings();
        readAtMost();
        melting();
        stunnedForASecondLess();
        allMayAgain();
        seconds();
        leastReasons();
        firstActThatCanNotBe();
        howManyWereLost();
        behindNowhere();
        behindReaders();
        yardEmptyAndFull();
        whoIsNotedByMost();
        firstLoss();
        stormsDone();
        tellAndExit();
    }

    /** A new object with a COUNT for A, and the text. */
    private static HailNames counted(int count, String text) {
        HailNames x = new HailNames();
        x.person(0, count, 0);
        return said(x, text);
    }

    // ---- the pad: "up to 60 signs (codes 33 to 126)"

    private static void padFullAndEmpty() {
        HailNames x = new HailNames();
        due(7, "wipe() of nothing", x.wipe(), 0);
        for (int round = 0; round < 2; round++) {
            for (int i = 1; i <= 60; i++) {
                due(6, "say('.')", x.say('.'), i);
            }
            due(6, "the 61st sign", x.say('.'), FULL);
            due(26, "signs", x.told(0), 60);
            due(7, "wipe() of a full PAD", x.wipe(), 60);
            due(26, "signs", x.told(0), 0);
            due(7, "wipe() again", x.wipe(), 0);
        }
        x = fresh(".".repeat(60));
        x.done();
        due(6, "say('A') after done()", x.say('A'), 1);
        due(7, "wipe() of one sign", x.wipe(), 1);
        due(7, "wipe() leaves the second", x.told(1), 60);
    }

    /** All 94 signs in each place of an act, so that the letters beside the first and the last are among them. */
    private static void signsThatCanStand() {
        canStand("", "." + PEOPLE + READERS, ".");
        canStand("A", ">@", "");
        canStand("H", ">@", "");
        canStand("A>", PEOPLE, PEOPLE);
        canStand("H@", CELLS, CELLS);
        canStand("0", "><?", "><");
        canStand("3", "><?", "><");
        canStand("0?", PEOPLE, PEOPLE);
        canStand("3>", "." + PEOPLE + READERS, ".");
        canStand("A>B.", "." + PEOPLE + READERS, ".");
    }

    private static void canStand(String ahead, String can, String ends) {
        for (char sign = 33; sign <= 126; sign++) {
            int place = ahead.length();
            int fault = ends.indexOf(sign) >= 0 ? NONE : can.indexOf(sign) >= 0 ? place + 1 : place;
            due(8, "fault() of " + ahead + sign, fresh(ahead + sign).fault(), fault);
        }
    }

    /** "Or the number of signs, if more must come": up to a pad that is full. */
    private static void moreMustCome() {
        String[] begun = {"A", "A>", "A@", "0", "0?"};
        for (String part : begun) {
            for (int dots = 0; dots + part.length() <= 60; dots++) {
                String text = ".".repeat(dots) + part;
                due(8, "fault() of " + text, fresh(text).fault(), text.length());
            }
        }
        due(8, "fault() of nothing", fresh("").fault(), NONE);
        due(8, "fault() of 60 signs", fresh(".".repeat(60)).fault(), NONE);
        due(8, "fault() of 20 ACTS of three", fresh("A>B".repeat(20)).fault(), NONE);
        due(8, "fault() of 30 ACTS of two", fresh("0>".repeat(30)).fault(), NONE);
    }

    private static void theFirstFault() {
        for (int place = 0; place < 60; place++) {
            String text = ".".repeat(place) + "!".repeat(60 - place);
            due(8, "fault() of " + text, fresh(text).fault(), place);
        }
        due(8, "fault() of A>BA!A!", fresh("A>BA!A!").fault(), 4);
        due(8, "fault() of A>B0?0A", fresh("A>B0?0A").fault(), 5);
        due(8, "an ACT that can not be is no FAULT", fresh("A>A0<").fault(), NONE);
    }

    // ---- acts: what they do at their edges

    /** "The first thinks of the second, whose COUNT is 1 more"; "the COUNT is 99". */
    private static void thoughts() {
        HailNames x = counted(98, "B>A");
        due(9, "B>A, the COUNT being 98", x.judge(1), NONE);
        due(10, "COUNT 98 and 1 more", x.behind(0, 0), 99);
        due(10, "COUNT of the first", x.behind(1, 0), 0);
        said(x, "B>AC>A");
        due(9, "the second to think, the COUNT being 99", x.judge(0), 1);
        due(9, "why", x.judge(1), 2);
        due(9, "who has COUNT 99 may think", said(x, "B>AA>H").judge(1), NONE);
        due(10, "COUNT 0 and 1 more", x.behind(7, 0), 1);
        for (int p = 0; p < 8; p++) {
            String self = "" + PEOPLE.charAt(p) + '>' + PEOPLE.charAt(p);
            due(9, self, fresh(self).judge(1), 1);
        }
    }

    /** "SIZE and FIGURE are the COUNT, the COUNT is 0"; "the COUNT is 0"; "the STONE lies already". */
    private static void falls() {
        int[] counts = {1, 2, 98, 99};
        for (int count : counts) {
            for (int cell = 0; cell < 12; cell++) {
                HailNames x = counted(count, "A@" + CELLS.charAt(cell));
                due(10, "COUNT", x.behind(0, 0), 0);
                due(10, "the CELL", x.behind(0, 2), cell);
                due(10, "SIZE", x.behind(0, 3), count);
                due(10, "FIGURE", x.behind(0, 4), count);
                due(12, "STONES that lie", x.yard(1), 1);
            }
        }
        due(9, "A@a, the COUNT being 0", counted(0, "A@a").judge(1), 3);
        due(9, "A@a, the COUNT being 1", counted(1, "A@a").judge(1), NONE);
        due(9, "it can not fall twice: the COUNT is 0", counted(9, "A@aA@b").judge(1), 3);
        due(9, "nor when it lies, though thought of", counted(9, "A@aB>AA@b").judge(1), 4);
        due(9, "it can when it was LOST", counted(1, "A@a.B>AA@b").judge(1), NONE);
        due(9, "it can when it was read", counted(1, "A@a0?AB>AA@b").judge(1), NONE);
        HailNames x = counted(5, "A@a");
        x.stone(0, 11, 50, 50);
        due(9, "a STONE that was laid lies already", x.judge(1), 4);
    }

    /** "Each READER there is STUNNED for a tenth of the FIGURE, cut, more seconds, 9 at most". */
    private static void stunning() {
        for (int count = 1; count <= 99; count++) {
            HailNames x = counted(count, "A@d");
            x.reader(0, 2, 0);
            x.reader(2, 4, 0);
            x.reader(3, 3, 0);
            due(11, "STUNNED by a FIGURE of " + count, x.reads(1, 1), count / 10);
            due(11, "STUNNED too, being there", x.reads(3, 1), count / 10);
            due(11, "not on the CELL of 1 less", x.reads(0, 1), 0);
            due(11, "not on the CELL of 1 more", x.reads(2, 1), 0);
            due(11, "whether he may", x.reads(1, 3), count < 10 ? 1 : 0);
        }
        for (int before = 0; before <= 9; before++) {
            for (int more = 0; more <= 9; more++) {
                HailNames x = counted(Math.max(1, 10 * more), "A@a");
                x.reader(0, 0, before);
                due(11, before + " seconds and " + more + " more", x.reads(0, 1), Math.min(9, before + more));
            }
        }
        HailNames x = counted(20, "0>A@b");
        due(11, "STUNNED, having done something", x.reads(0, 1), 2);
        due(11, "as long when the second is over", said(x, "0>A@b.").reads(0, 1), 1);
    }

    /** "He goes to the CELL of 1 more, 1 less"; "there is no such CELL": the row does not close. */
    private static void steps() {
        for (int r = 0; r < 4; r++) {
            for (int cell = 0; cell < 12; cell++) {
                HailNames x = new HailNames();
                x.reader(r, cell, 0);
                said(x, r + ">");
                due(9, r + "> on CELL " + cell, x.judge(1), cell < 11 ? NONE : 6);
                due(11, r + "> on CELL " + cell, x.reads(r, 0), cell < 11 ? cell + 1 : STATE);
                said(x, r + "<");
                due(9, r + "< on CELL " + cell, x.judge(1), cell > 0 ? NONE : 6);
                due(11, r + "< on CELL " + cell, x.reads(r, 0), cell > 0 ? cell - 1 : STATE);
            }
        }
    }

    /** "NOTED of the PERSON is its FIGURE, he has READ one more, it lies nowhere"; "not on his CELL". */
    private static void readings() {
        for (int cell = 0; cell < 12; cell++) {
            for (int place = 0; place < 12; place++) {
                HailNames x = new HailNames();
                x.stone(7, cell, 1, 99);
                x.reader(3, place, 0);
                due(9, "on CELL " + place + " one on " + cell, said(x, "3?H").judge(1), cell == place ? NONE : 7);
            }
        }
        due(9, "one that lies nowhere, on CELL 0", fresh("0?A").judge(1), 7);
        HailNames x = new HailNames();
        x.person(0, 3, 99);
        x.stone(0, 0, 99, 1);
        x.stone(1, 0, 99, 50);
        said(x, "0?A");
        due(10, "NOTED is the FIGURE, though it was more", x.behind(0, 1), 1);
        due(10, "COUNT stays", x.behind(0, 0), 3);
        due(10, "it lies nowhere", x.behind(0, 2), NONE);
        due(10, "nor has it a SIZE", x.behind(0, 3), 0);
        due(10, "nor a FIGURE", x.behind(0, 4), 0);
        due(10, "the other lies", x.behind(1, 2), 0);
        due(10, "of the other nothing is NOTED", x.behind(1, 1), 0);
        due(11, "READ", x.reads(0, 2), 1);
        due(11, "others have READ none", x.reads(1, 2), 0);
        due(9, "it can not be read again", said(x, "0?A.0?A").judge(1), 7);
        due(10, "the FIGURE, not the SIZE that is left", said(x, "...0?B").behind(1, 1), 50);
        due(9, "one a second", said(x, "0?A0?B").judge(1), 5);
        x.stone(1, 0, 9, 99);
        due(10, "NOTED, 99", said(x, "0?B").behind(1, 1), 99);
    }

    /** "999 at most": 512 calls are too few for it, so this run alone goes on beyond them. */
    private static void readAtMost() {
        HailNames x = new HailNames();
        for (int read = 1; read <= 1001; read++) {
            x.stone(0, 0, 9, 9);
            x.reader(0, 0, 0);
            said(x, "0?A");
            due(11, "READ", x.reads(0, 2), Math.min(read, 999));
            x.done();
        }
        due(26, "READ", x.told(80), 999);
    }

    /** "A SIZE less by MELT, and is LOST, and lies nowhere, if that leaves none". */
    private static void melting() {
        for (int melt = 1; melt <= 9; melt++) {
            for (int size = 1; size <= 99; size++) {
                HailNames x = fresh(".");
                x.melt(melt);
                x.stone(0, 0, size, 7);
                x.stone(7, 11, size, 8);
                boolean lies = size > melt;
                String call = "SIZE " + size + ", MELT " + melt + ": ";
                due(10, call + "SIZE", x.behind(7, 3), lies ? size - melt : 0);
                due(10, call + "FIGURE", x.behind(7, 4), lies ? 8 : 0);
                due(10, call + "the CELL", x.behind(7, 2), lies ? 11 : NONE);
                due(12, call + "STONES", x.yard(1), lies ? 129 : 0);
                due(9, call + "how many are LOST", x.judge(2), lies ? 0 : 2);
                due(10, call + "NOTED", x.behind(0, 1), 0);
            }
        }
        HailNames x = after(new HailNames(), ".");
        due(3, "none that lies nowhere melts", x.stone(0, 0, 1, 1), NONE);
    }

    /** "Then each READER who is STUNNED is for a second less". */
    private static void stunnedForASecondLess() {
        for (int stunned = 0; stunned <= 9; stunned++) {
            HailNames x = fresh(".");
            x.reader(2, 5, stunned);
            due(11, "a second less than " + stunned, x.reads(2, 1), Math.max(0, stunned - 1));
            due(11, "whether he may", x.reads(2, 3), stunned < 2 ? 1 : 0);
            due(11, "the CELL stays", x.reads(2, 0), 5);
            due(9, "before that", said(x, "2>").judge(1), stunned == 0 ? NONE : 5);
            due(9, "after that", said(x, ".2>").judge(1), stunned < 2 ? NONE : 5);
        }
    }

    /** "And all may do something again"; "has done something in this second". */
    private static void allMayAgain() {
        HailNames x = fresh("0>1>2>3>");
        for (int r = 0; r < 4; r++) {
            due(11, "whether he may", x.reads(r, 3), 0);
        }
        x.done();
        due(26, "nobody may", x.told(4), 0);
        for (int r = 0; r < 4; r++) {
            due(9, "one more", said(x, r + "<").judge(1), 5);
            due(9, "one more, a second later", said(x, "." + r + "<").judge(1), NONE);
            due(11, "what he did before this text counts", said(x, "").reads(r, 3), 0);
        }
        after(x, ".");
        due(26, "all may", x.told(4), 15);
        due(9, "one who could not go has done nothing", said(after(new HailNames(), "0<"), "0>").judge(1), NONE);
        after(x, "1>");
        due(26, "all but one may", x.told(4), 13);
        x.reader(1, 5, 0);
        due(4, "he has done nothing in this second", x.told(4), 15);
    }

    private static HailNames atSecond(int second) {
        HailNames x = fresh(".".repeat(Math.min(60, second)));
        x.done();
        return after(x, ".".repeat(Math.max(0, second - 60)));
    }

    /** "It is second 99". */
    private static void seconds() {
        HailNames x = atSecond(98);
        due(26, "the second", x.told(1), 98);
        due(9, "a second, it being 98", said(x, ".").judge(1), NONE);
        due(12, "the second behind it", x.yard(0), 99);
        said(x, "..");
        due(9, "the ACT", x.judge(0), 1);
        due(9, "why", x.judge(1), 8);
        after(x, ".");
        due(26, "the second", x.told(1), 99);
        due(9, "a second, it being 99", said(x, ".").judge(0), 0);
        due(9, "why", x.judge(1), 8);
        due(14, "done()", x.done(), STATE);
        due(26, "it does not wrap round", x.told(1), 99);
        due(14, "other ACTS can be", said(x, "A>B0>B@d").done(), 3);
        due(9, "he has done something in the last second", said(x, "0<").judge(1), 5);
    }

    // ---- "an act can not be for the least of these reasons"

    private static void leastReasons() {
        due(9, "1, not 2", counted(99, "A>A").judge(1), 1);
        HailNames x = counted(0, "A@a");
        x.stone(0, 0, 9, 9);
        due(9, "3, not 4", x.judge(1), 3);
        x.reader(0, 0, 1);
        due(9, "5, not 6, STUNNED", said(x, "0<").judge(1), 5);
        due(9, "5, not 7, STUNNED", said(x, "0?B").judge(1), 5);
        due(9, "5, though it lies there, STUNNED", said(x, "0?A").judge(1), 5);
        x.reader(0, 1, 0);
        due(9, "5, not 6, having done something", said(x, "0<0<").judge(1), 5);
        due(9, "5, not 7, having done something", said(x, "0<0?B").judge(1), 5);
        x.reader(0, 0, 0);
        x.person(1, 10, 0);
        due(9, "5, STUNNED within the text", said(x, "B@a0?B").judge(1), 5);
        x.person(1, 9, 0);
        due(9, "a FIGURE of 9 lets him", said(x, "B@a0?B").judge(1), NONE);
    }

    // ---- judged, behind, yard, lost, done

    private static void firstActThatCanNotBe() {
        due(9, "judge(0) of nothing", fresh("").judge(0), NONE);
        due(9, "judge(1) of nothing", fresh("").judge(1), NONE);
        due(9, "judge(2) of nothing", fresh("").judge(2), 0);
        due(9, "the first of all", fresh("A>AB>B").judge(0), 0);
        due(9, "the first of two", fresh("A>B0<A>A").judge(0), 1);
        due(9, "why the first", fresh("A>B0<A>A").judge(1), 6);
        HailNames x = after(new HailNames(), ".".repeat(40));
        said(x, ".".repeat(60));
        due(9, "the last of 60", x.judge(0), 59);
        due(9, "why the last of 60", x.judge(1), 8);
        due(9, "how many", x.judge(2), STATE);
        due(9, "59 can be", said(x, ".".repeat(59)).judge(0), NONE);
        due(9, "the last of 20", fresh("A>B".repeat(19) + "A>A").judge(0), 19);
    }

    private static void howManyWereLost() {
        HailNames x = new HailNames();
        for (int p = 0; p < 8; p++) {
            x.stone(p, p, 1 + p % 2, 9);
        }
        due(9, "none", said(x, "A>B").judge(2), 0);
        due(9, "four of 8", said(x, ".").judge(2), 4);
        due(9, "8 of 8", said(x, "..").judge(2), 8);
        due(9, "no more than 8", said(x, "...").judge(2), 8);
        due(9, "one being read", said(x, "0?A..").judge(2), 7);
        due(9, "one being LOST twice", said(x, "..B>AA@a.").judge(2), 9);
        after(x, ".");
        due(9, "those LOST before the text do not count", said(x, "").judge(2), 0);
        due(9, "nor then", said(x, ".").judge(2), 4);
    }

    private static void behindNowhere() {
        for (int p = 0; p < 8; p++) {
            HailNames x = new HailNames();
            due(10, "the CELL, nowhere", x.behind(p, 2), NONE);
            due(10, "SIZE, nowhere", x.behind(p, 3), 0);
            due(10, "FIGURE, nowhere", x.behind(p, 4), 0);
            x.person(p, 99, 98);
            x.stone(p, 11, 97, 96);
            int[] wants = {99, 98, 11, 97, 96};
            for (int what = 0; what < 5; what++) {
                due(10, "behind(" + p + ", " + what + ")", x.behind(p, what), wants[what]);
            }
        }
    }

    private static void behindReaders() {
        for (int r = 0; r < 4; r++) {
            HailNames x = new HailNames();
            int[] first = {3 * r, 0, 0, 1};
            x.stone(0, 11, 5, 5);
            for (int what = 0; what < 4; what++) {
                due(11, "reads(" + r + ", " + what + ") at first", x.reads(r, what), first[what]);
            }
            x.reader(r, 11, 0);
            int[] later = {11, 0, 1, 0};
            said(x, r + "?A");
            for (int what = 0; what < 4; what++) {
                due(11, "reads(" + r + ", " + what + ") behind a reading", x.reads(r, what), later[what]);
            }
        }
    }

    private static void yardEmptyAndFull() {
        HailNames x = new HailNames();
        for (int what = 0; what < 4; what++) {
            due(12, "yard(" + what + ") of nothing", x.yard(what), 0);
        }
        for (int p = 0; p < 8; p++) {
            x.stone(p, 11 - p, 99, 99);
            due(12, "STONES", x.yard(1), (2 << p) - 1);
            due(12, "FIGURES", x.yard(2), 99 * (p + 1));
        }
        due(12, "FIGURES do not melt", said(x, ".").yard(2), 792);
        due(12, "a FIGURE that is read goes", said(x, "3?C").yard(2), 693);
        due(12, "STONES without that one", x.yard(1), 251);
        due(12, "the greatest second", atSecond(99).yard(0), 99);
    }

    /** "Who is NOTED by most, of as much the least". */
    private static void whoIsNotedByMost() {
        for (int p = 0; p < 8; p++) {
            HailNames x = new HailNames();
            x.person(p, 0, 1);
            due(12, "one alone", x.yard(3), p);
            for (int q = 0; q < 8; q++) {
                x.person(q, 0, 1);
                due(12, "of as much the least", x.yard(3), Math.min(p, q));
                x.person(q, 0, 2);
                due(12, "by one more", x.yard(3), q);
                x.person(q, 99, q == p ? 1 : 0);
                due(12, "COUNT is no matter", x.yard(3), p);
            }
        }
        HailNames x = new HailNames();
        x.person(3, 0, 98);
        x.stone(6, 0, 9, 99);
        due(12, "behind the text", said(x, "0?G").yard(3), 6);
        due(12, "not before it", said(x, "").yard(3), 3);
    }

    /** "The first ACT by which a STONE was; whose, the least; NONE". */
    private static void firstLoss() {
        HailNames x = new HailNames();
        due(13, "the ACT, of nothing", x.lost(0), NONE);
        due(13, "whose, of nothing", x.lost(1), NONE);
        x.stone(0, 0, 60, 1);
        x.stone(7, 0, 59, 1);
        due(13, "no ACT yet", said(x, ".".repeat(58)).lost(0), NONE);
        due(13, "nobody's yet", x.lost(1), NONE);
        said(x, ".".repeat(60));
        due(13, "the first ACT, not the last", x.lost(0), 58);
        due(13, "whose first, though a lesser is later", x.lost(1), 7);
        x.stone(7, -1, 0, 0);
        said(x, ".".repeat(60));
        due(13, "the last of 60", x.lost(0), 59);
        due(13, "whose", x.lost(1), 0);
        for (int p = 7; p >= 0; p--) {
            x.stone(p, p, 1, 1);
            said(x, "..");
            due(13, "the first of all", x.lost(0), 0);
            due(13, "whose, the least", x.lost(1), p);
        }
        due(13, "one that is read is not LOST", said(x, "0?A").lost(0), NONE);
        due(13, "so the next is the least", said(x, "0?A.").lost(1), 1);
        due(13, "by the ACT behind it", x.lost(0), 1);
        after(x, ".");
        due(13, "what was LOST before the text is no matter", said(x, ".").lost(0), NONE);
        due(13, "nor whose", x.lost(1), NONE);
    }

    private static void stormsDone() {
        HailNames x = new HailNames();
        due(14, "done() of nothing", x.done(), 0);
        due(14, "60 ACTS", said(x, ".".repeat(60)).done(), 60);
        due(26, "the PAD is empty", x.told(0), 0);
        due(14, "done() again", x.done(), 0);
        due(26, "the second", x.told(1), 60);
        due(14, "20 ACTS of three", said(x, "A>B".repeat(20)).done(), 20);
        due(26, "COUNT", x.told(11), 20);
        due(14, "done() of a FAULT at the end", said(x, "A>B".repeat(19) + "A>").done(), NO);
        due(26, "the PAD stays", x.told(0), 59);
        due(26, "COUNT stays", x.told(11), 20);
        due(14, "done() when the last can not be", said(x, "A>B".repeat(19) + "A>A").done(), STATE);
        due(26, "the PAD stays", x.told(0), 60);
        due(26, "COUNT stays", x.told(11), 20);
    }
}
