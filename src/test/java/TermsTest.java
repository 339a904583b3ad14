/** The document's words on what an object is, and on refusals and FAULTS: a test for each that names a bound. */
public final class TermsTest extends Bench {
    @Says("An object is used for at most 512 calls after it has been made")
    private static void theCall512Answers() {
        CorpseTales x = new CorpseTales();
        int calls = 2 + WOODS.length();
        take(x, WOODS);
        int trace = 0;
        for (; calls < 511; calls++) {
            due(x, 2, "tell", 0);
            trace = 31 * trace + 1;
        }
        due(x, trace, "trace");
    }

    @Says("UNKNOWN (there is no such TALE, FACT, SHEET, place)")
    private static void unknown() {
        due("the constant", CorpseTales.UNKNOWN, -1);
        due(busy(), -1, "ofTale", 4, 0);
        due(busy(), -1, "know", 8, 1);
        due(busy(), -1, "put", 4, 0, 0);
    }

    @Says("OUTSIDE (another number is not as told)")
    private static void outside() {
        due("the constant", CorpseTales.OUTSIDE, -2);
        due(busy(), -2, "ofTale", 0, 6);
    }

    @Says("STATE (as told)")
    private static void state() {
        due("the constant", CorpseTales.STATE, -3);
        due(bare(), -3, "game", 1);
    }

    @Says("FULL; of several")
    private static void full() {
        due("the constant", CorpseTales.FULL, -4);
        CorpseTales x = busy();
        for (int k = 2; k < 8; k++) due(x, k, "reading", 0, NONE, 0);
        refused(x, -4, "reading", 0, NONE, 0);
    }

    @Says("of several the first in the order in which a call's line tells them")
    private static void theFirstRefusal() {
        due(bare(), UNKNOWN, "ofTale", 0, 6);
        due(bare(), UNKNOWN, "know", 8, 1);
        due(bare(), UNKNOWN, "believe", 8, 1);
        due(bare(), UNKNOWN, "night", 4, 3, 0, 0, 4);
        due(bare(), OUTSIDE, "night", ROW, 3, 0, 0, 0);
        due(bare(), OUTSIDE, "night", ROW, BYTES, 0, 0, 4);
        due(bare(), UNKNOWN, "comes", 4, 3, 0, 0);
        due(bare(), OUTSIDE, "comes", ROW, 3, 0, 0);
        due(bare(), UNKNOWN, "study", 4, 3, 0, 0);
        due(bare(), OUTSIDE, "study", ROW, 3, 0, 0);
        due(bare(), OUTSIDE, "never", 6, 0);
        due(bare(), OUTSIDE, "game", 5);
        due(bare(), UNKNOWN, "reading", 0, NONE, 10);
        due(bare(), OUTSIDE, "fits", 3);
        due(busy(), UNKNOWN, "forest", 4, 3, 0, 0);
        due(busy(), UNKNOWN, "sheet", 4, 3, 0);
        due(busy(), UNKNOWN, "as", 4, 3);
    }

    @Says("They change nothing (but fault(), of a call that names FAULTS).")
    private static void refusalsChangeNothing() {
        refused(busy(), UNKNOWN, "forest", 4, BYTES, 0, 1);
        refused(busy(), OUTSIDE, "forest", SHORT_ROW, 3, 0, 8);
        refused(busy(), UNKNOWN, "ofTale", 4, 0);
        refused(busy(), OUTSIDE, "ofTale", 0, 6);
        refused(busy(), UNKNOWN, "know", 8, 1);
        refused(bare(), STATE, "know", 0, 1);
        refused(busy(), UNKNOWN, "believe", 8, 1);
        refused(bare(), STATE, "believe", 0, 1);
        refused(busy(), UNKNOWN, "night", ROW, BYTES, 20, 1, 0);
        refused(busy(), OUTSIDE, "night", ROW, BYTES, 0, 21, 0);
        refused(bare(), STATE, "night", ROW, BYTES, 0, 1, 0);
        refused(busy(), UNKNOWN, "comes", ROW, BYTES, 20, 1);
        refused(bare(), STATE, "comes", ROW, BYTES, 0, 1);
        refused(busy(), OUTSIDE, "never", 0, 0);
        refused(bare(), STATE, "never", 1, 0);
        refused(busy(), UNKNOWN, "study", ROW, BYTES, 20, 1);
        refused(bare(), STATE, "study", ROW, BYTES, 0, 1);
        refused(busy(), OUTSIDE, "game", 5);
        refused(bare(), STATE, "game", 1);
        refused(busy(), UNKNOWN, "porter", 0, 4, 0);
        refused(busy(), OUTSIDE, "porter", 9, 0, 0);
        refused(busy(), UNKNOWN, "reading", 4, NONE, 0);
        refused(busy(), OUTSIDE, "reading", 0, NONE, 10);
        refused(busy(), OUTSIDE, "back", 3);
        refused(busy(), OUTSIDE, "fits", 3);
        refused(bare(), STATE, "fits", 0);
        refused(busy(), UNKNOWN, "sheet", 4, BYTES, 1);
        refused(busy(), OUTSIDE, "sheet", ROW, BYTES, 61);
        refused(busy(), UNKNOWN, "lose", 4);
        refused(busy(), UNKNOWN, "put", 4, 0, 1);
        refused(busy(), UNKNOWN, "cell", 4, 0, BYTES);
        refused(busy(), OUTSIDE, "cell", ROW, 0, 3);
        refused(busy(), UNKNOWN, "copy", ROW, 0, 4, 0, 1);
        refused(busy(), UNKNOWN, "tell", 4);
        refused(busy(), UNKNOWN, "whisper", 4);
        refused(busy(), UNKNOWN, "as", 4, 0);
        refused(busy(), OUTSIDE, "as", 0, 3);
        refused(busy(), OUTSIDE, "many", 5);
    }

    @Says("1 NULL (there is nothing)")
    private static void faultNull() {
        faulted(busy(), -11, "forest", NOTHING, BYTES, 0, 0);
        faulted(busy(), -11, "night", NOTHING, BYTES, 0, 0, 0);
        faulted(busy(), -11, "comes", NOTHING, BYTES, 0, 0);
        faulted(busy(), -11, "study", NOTHING, BYTES, 0, 0);
        faulted(busy(), -11, "put", NOTHING, 0, 0);
        faulted(busy(), -11, "cell", NOTHING, 0, BYTES);
        faulted(busy(), -11, "copy", NOTHING, 0, ROW, 0, 0);
        faulted(busy(), -11, "copy", ROW, 0, NOTHING, 0, 0);
    }

    @Says("2 CAST (it is of another LANE, kind)")
    private static void faultCast() {
        faulted(busy(), -12, "forest", SHORT_ROW, INTS, 0, 8);
        faulted(busy(), -12, "forest", SHORT_ROW, BYTES, 0, 8);
        faulted(busy(), -12, "night", ROW, SHORTS, 0, 1, 0);
        faulted(busy(), -12, "comes", ROW, INTS, 0, 1);
        faulted(busy(), -12, "study", ROW, SHORTS, 0, 1);
        faulted(busy(), -12, "cell", ROW, 0, SHORTS);
        faulted(busy(), -12, "cell", EMPTY_ROW, 0, BYTES);
        faulted(busy(), -12, "copy", ROW, 0, SHORT_ROW, 0, 1);
        faulted(busy(), -12, "as", 0, 1);
    }

    @Says("3 INDEX (of cells from i on")
    private static void faultIndex() {
        for (int i : new int[] {-1, SHORT_ROW_LENGTH, MIN, MAX}) {
            faulted(busy(), -13, "forest", SHORT_ROW, SHORTS, i, 1);
            faulted(busy(), -13, "put", SHORT_ROW, i, 1);
            faulted(busy(), -13, "cell", SHORT_ROW, i, SHORTS);
            faulted(busy(), -13, "copy", SHORT_ROW, i, SHORT_ROW, 0, 1);
            faulted(busy(), -13, "copy", SHORT_ROW, 0, SHORT_ROW, i, 1);
        }
        for (int i : new int[] {-1, ROW_LENGTH, MIN, MAX}) {
            faulted(busy(), -13, "night", ROW, BYTES, i, 1, 0);
            faulted(busy(), -13, "comes", ROW, BYTES, i, 1);
            faulted(busy(), -13, "study", ROW, BYTES, i, 1);
        }
    }

    @Says("also where i is not 0 .. how many there are, if none of them is taken, too")
    private static void faultIndexOfNone() {
        for (int i : new int[] {-1, ROW_LENGTH + 1, MIN, MAX}) {
            faulted(busy(), -13, "forest", ROW, BYTES, i, 0);
            faulted(busy(), -13, "night", ROW, BYTES, i, 0, 0);
            faulted(busy(), -13, "comes", ROW, BYTES, i, 0);
            faulted(busy(), -13, "study", ROW, BYTES, i, 0);
            faulted(busy(), -13, "copy", ROW, i, ROW, 0, 0);
            faulted(busy(), -13, "copy", ROW, 0, ROW, i, 0);
        }
        faulted(busy(), -13, "forest", EMPTY_ROW, INTS, 1, 0);
        for (int i : new int[] {0, ROW_LENGTH}) {
            due(busy(), -100, "forest", ROW, BYTES, i, 0);
            due(busy(), 0, "night", ROW, BYTES, i, 0, 0);
            due(busy(), 0, "comes", ROW, BYTES, i, 0);
            due(busy(), NONE, "study", ROW, BYTES, i, 0);
            due(busy(), 0, "copy", ROW, i, ROW, ROW_LENGTH - i, 0);
        }
        due(busy(), -100, "forest", EMPTY_ROW, INTS, 0, 0);
    }

    @Says("4 SIZE (a length below 0)")
    private static void faultSize() {
        for (int n : new int[] {-1, MIN}) {
            faulted(busy(), -14, "forest", SHORT_ROW, SHORTS, 0, n);
            faulted(busy(), -14, "night", ROW, BYTES, 0, n, 0);
            faulted(busy(), -14, "comes", ROW, BYTES, 0, n);
            faulted(busy(), -14, "study", ROW, BYTES, 0, n);
            faulted(busy(), -14, "sheet", ROW, BYTES, n);
        }
    }

    @Says("Of a call the first that is come to, in the order told")
    private static void theFirstFault() {
        faulted(busy(), CAST, "forest", ROW, INTS, -1, -1);
        faulted(busy(), NULL, "forest", NOTHING, INTS, -1, -1);
        faulted(busy(), SIZE, "forest", ROW, BYTES, -1, -1);
        faulted(busy(), CAST, "night", ROW, INTS, -1, -1, 0);
        faulted(busy(), NULL, "night", NOTHING, INTS, -1, -1, 0);
        faulted(busy(), SIZE, "night", ROW, BYTES, -1, -1, 0);
        faulted(busy(), CAST, "comes", ROW, INTS, -1, -1);
        faulted(busy(), NULL, "comes", NOTHING, INTS, -1, -1);
        faulted(busy(), SIZE, "comes", ROW, BYTES, -1, -1);
        faulted(busy(), CAST, "study", ROW, INTS, -1, -1);
        faulted(busy(), NULL, "study", NOTHING, INTS, -1, -1);
        faulted(busy(), SIZE, "study", ROW, BYTES, -1, -1);
        faulted(busy(), NULL, "put", NOTHING, -1, 0);
        faulted(busy(), CAST, "cell", ROW, -1, INTS);
        faulted(busy(), NULL, "cell", NOTHING, -1, INTS);
        faulted(busy(), NULL, "copy", ROW, -1, NOTHING, -1, -1);
        faulted(busy(), CAST, "copy", ROW, -1, SHORT_ROW, -1, -1);
    }

    @Says("it answers -10 less it")
    private static void faultsAreAnsweredBelowTen() {
        CorpseTales x = busy();
        due(x, -11, "put", NOTHING, 0, 0);
        due(x, -12, "as", 0, 2);
        due(x, -13, "put", ROW, -1, 0);
        due(x, -14, "sheet", ROW, BYTES, -1);
    }

    @Says("(LOST, where a long is answered, as for refusals)")
    private static void longsAreLost() {
        due("the constant", CorpseTales.LOST, Long.MIN_VALUE);
        CorpseTales x = busy();
        due(x, Long.MIN_VALUE, "cell", NOTHING, 0, BYTES);
        due(x, Long.MIN_VALUE, "cell", ROW, 0, INTS);
        due(x, Long.MIN_VALUE, "cell", ROW, -1, BYTES);
        due(x, Long.MIN_VALUE, "cell", 4, 0, BYTES);
        due(x, Long.MIN_VALUE, "cell", ROW, 0, 3);
        due(x, Long.MIN_VALUE, "porter", 0, 4, 0);
        due(x, Long.MIN_VALUE, "porter", 9, 0, 0);
    }

    @Says("and changes nothing; fault() tells it.")
    private static void faultsChangeNothing() {
        faulted(busy(), INDEX, "forest", SHORT_ROW, SHORTS, 0, 9);
        faulted(busy(), SIZE, "sheet", ROW, INTS, -1);
        faulted(busy(), SIZE, "sheet", NOTHING, INTS, -1);
        faulted(busy(), INDEX, "put", ROW, ROW_LENGTH, 1);
        faulted(busy(), INDEX, "copy", ROW, 0, ROW, 1, ROW_LENGTH);
        faulted(busy(), INDEX, "copy", ROW, 1, ROW, 0, ROW_LENGTH);
        faulted(busy(), CAST, "as", 1, 2);
    }

    @Says("NONE is -9.")
    private static void none() {
        due("the constant", CorpseTales.NONE, -9);
        due(busy(), -9, "never", 5, 0);
        due(busy(), -9, "study", ROW, BYTES, 0, 0);
        due(busy(), 2, "reading", 0, -9, 0);
        CorpseTales x = busy();
        due(x, 2, "reading", 0, NONE, 9);
        due(x, -9, "fits", 1);
    }

    @Says("Sets are told as bits (bit k for number k).")
    private static void setsAreBits() {
        for (int k = 0; k < 8; k++) {
            CorpseTales x = grown(WOODS);
            due(x, 1, "know", k, 1);
            due(x, 1 << k, "many", 2);
            due(x, 1, "believe", 7 - k, 1);
            due(x, 128 >> k, "many", 3);
        }
        CorpseTales x = knowing(believing(grown(WOODS), 0, 1, 2, 3, 4, 5, 6, 7), 0, 1, 2, 3, 4, 5, 6, 7);
        due(x, 255, "many", 2);
        due(x, 255, "many", 3);
    }

    @Says("Shares are told as upper and lower number (above 0) in least terms.")
    private static void sharesInLeastTerms() {
        CorpseTales x = grown("r4;t0120;d1231;o3300");
        long[][] tale = {{1, 1}, {49, 64}, {9, 16}, {25, 64}, {1, 4}, {9, 64}, {1, 16}, {1, 64}, {0, 1}};
        long[][] twice = {{1, 1}, {63, 64}, {15, 16}, {55, 64}, {3, 4}, {39, 64}, {7, 16}, {15, 64}, {0, 1}};
        long[][] one = {{1, 1}, {7, 8}, {3, 4}, {5, 8}, {1, 2}, {3, 8}, {1, 4}, {1, 8}, {0, 1}};
        for (int w = 0; w <= 8; w++) {
            for (int which = 0; which < 2; which++) {
                due(x, tale[w][which], "porter", w, 0, which);
                due(x, twice[w][which], "porter", w, 1, which);
                due(x, one[w][which], "porter", w, 2, which);
            }
        }
    }

    public static void main(String[] args) {
        runSentences(TermsTest.class);
    }
}
