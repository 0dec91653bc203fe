/** What the tests by hand share; they extend it, as a class without a package can not be imported. */
abstract class HailTest {
    static final int UNKNOWN = -1, OUTSIDE = -2, STATE = -3, FULL = -4, NO = -5, NONE = -6;
    private static int wrong = 0;

    static void due(int promise, String call, long got, long want) {
        if (got != want) {
            wrong++;
            System.out.println("promise " + promise + ": " + call + " answered " + got + ", due is " + want);
        }
    }

    /** The last line of a test's main method. */
    static void tellAndExit() {
        System.out.println(wrong == 0 ? "all answers are as due" : wrong + " answers are not as due");
        if (wrong != 0) {
            System.exit(1);
        }
    }

    /** The text alone is on the PAD then. */
    static HailNames said(HailNames x, String text) {
        x.wipe();
        for (int i = 0; i < text.length(); i++) {
            x.say(text.charAt(i));
        }
        return x;
    }

    static HailNames fresh(String text) {
        return said(new HailNames(), text);
    }

    /** For texts that can be: the last call of them is done(). */
    static HailNames after(HailNames x, String text) {
        said(x, text).done();
        return x;
    }
}
