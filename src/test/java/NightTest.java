import java.util.Arrays;

/** Part 2 of the document, and promises 6 and 7: a test for each sentence that names a bound. */
public final class NightTest extends Bench {
    private static int[] times(int n, int tale) {
        int[] order = new int[n];
        Arrays.fill(order, tale);
        return order;
    }

    // ---- a NIGHT

    @Says("(a row of TALES; one may be told again)")
    private static void aTaleMayBeToldAgain() {
        CorpseTales x = grown("r9;t0071;t7770");
        dueNight(x, order(0, 0), 4, 0, 2, 128, 0);
        dueNight(x, order(0, 1, 0), 2, 1, 3, 128, 0);
        dueNight(x, order(0, 0, 0, 0), 8, 0, 4, 128, 0);
    }

    @Says("he is at STEP 0.")
    private static void aNightBeginsAtZero() {
        CorpseTales x = knowing(grown("r4;t0012"), 7);
        dueNight(x, order(), 0, 0, 0, 128, 0);
        dueNight(x, order(0), 3, 0, 1, 130, 0);
        dueNight(x, order(), 0, 0, 0, 128, 0);
        dueNight(x, order(0), 3, 0, 1, 130, 0);
    }

    @Says("he goes as many STEPS as it is LONG while it is told")
    private static void heGoesAsItIsLong() {
        CorpseTales x = believing(grown("r9;t0000;t0001;t0002;t0003"), 0);
        for (int t = 0; t < 4; t++) dueNight(x, order(t), t, 0, 1, 1, 0);
    }

    @Says("(at the circle, STEPS or more, he has COME, and the night is over: that TALE is not heard out)")
    private static void heComesWhileItIsTold() {
        dueNight(believing(grown("r4;t0073"), 0), order(0), 3, 0, 1, 128, 0);
        dueNight(grown("r3;t0073"), order(0), 3, 0, 0, 0, 1);
        dueNight(grown("r2;t0073"), order(0), 2, 0, 0, 0, 1);
        dueNight(grown("r1;t0073"), order(0), 1, 0, 0, 0, 1);
        dueNight(knowing(grown("r3;t0073"), 0), order(0), 3, 0, 0, 1, 1);
        dueNight(believing(grown("r3;t0073"), 0), order(0), 3, 0, 0, 0, 1);
        dueNight(grown("r5;t0073"), order(0, 0), 5, 0, 1, 128, 1);
        dueNight(knowing(grown("r3;t0073;t1110"), 1), order(0, 1), 3, 0, 0, 2, 1);
    }

    @Says("if he KNOWS the answer, he speaks: the corpse has FLOWN, he is at STEP 0 again")
    private static void heKnowsAndItFlies() {
        CorpseTales x = knowing(grown("r4;t0170;t2360;t2373"), 1);
        dueNight(x, order(0), 0, 1, 1, 130, 0);
        dueNight(x, order(1, 1, 0), 0, 1, 3, 194, 0);
        dueNight(x, order(1, 1, 1, 0), 0, 1, 4, 194, 0);
        dueNight(knowing(grown("r4;t0073"), 0), order(0, 0), 0, 2, 2, 129, 0);
    }

    @Says("if not, but he BELIEVES one (a FACT of those that it NEEDS, KNOWN or not), he speaks, too, in vain")
    private static void heBelievesOne() {
        for (int fact = 0; fact < 8; fact++) {
            boolean isNeeded = fact == 0 || fact == 7;
            dueNight(believing(grown("r4;d0720"), fact), order(0), isNeeded ? 0 : 1, 0, 1, 4, 0);
        }
        dueNight(believing(grown("r4;t0720"), 7), order(0), 0, 0, 1, 4, 0);
        dueNight(believing(grown("r4;o0720"), 0), order(0), 0, 0, 1, 4, 0);
        dueNight(believing(knowing(grown("r4;d0721"), 0), 0), order(0), 1, 0, 1, 5, 0);
        dueNight(believing(knowing(grown("r4;d0721"), 0), 7), order(0), 1, 0, 1, 5, 0);
        dueNight(believing(knowing(grown("r4;d0721"), 0, 7), 0, 7), order(0), 0, 1, 1, 133, 0);
    }

    @Says("nothing flies, he goes on")
    private static void inVainNothingFlies() {
        CorpseTales x = believing(grown("r9;t0071;t1160"), 0);
        dueNight(x, order(0), 1, 0, 1, 128, 0);
        dueNight(x, order(0, 0), 2, 0, 2, 128, 0);
        dueNight(x, order(1, 0, 1), 3, 0, 3, 192, 0);
    }

    @Says("else he is silent, goes 1 STEP (he may COME by that)")
    private static void heIsSilentAndGoesOne() {
        dueNight(grown("r1;t0070"), order(0), 1, 0, 1, 128, 1);
        dueNight(grown("r2;t0070"), order(0), 1, 0, 1, 128, 0);
        dueNight(grown("r2;t0070"), order(0, 0), 2, 0, 2, 128, 1);
        dueNight(grown("r2;t0070"), order(0, 0, 0), 2, 0, 2, 128, 1);
        dueNight(grown("r4;t0073"), order(0), 4, 0, 1, 128, 1);
    }

    @Says("Then he KNOWS what it TEACHES (behind the question, also if he has COME by its STEP).")
    private static void thenHeKnowsWhatItTeaches() {
        dueNight(grown("r4;t0000"), order(0), 1, 0, 1, 1, 0);
        dueNight(grown("r4;t0000"), order(0, 0), 0, 1, 2, 1, 0);
        dueNight(grown("r1;t0070"), order(0), 1, 0, 1, 128, 1);
        dueNight(knowing(grown("r4;t0070"), 0), order(0), 0, 1, 1, 129, 0);
        dueNight(believing(grown("r4;t0070"), 0), order(0), 0, 0, 1, 128, 0);
        dueNight(grown("r1;t0071"), order(0), 1, 0, 0, 0, 1);
    }

    @Says("The ORDER told, the night is over.")
    private static void theOrderIsTold() {
        CorpseTales x = grown("r9;t0070;t7770");
        dueNight(x, order(0), 1, 0, 1, 128, 0);
        due(x, 0, "many", 2);
        due(x, 0, "ofTale", 1, 5);
        dueNight(x, order(1), 1, 0, 1, 128, 0);
    }

    @Says("FAR: the STEP at which he is as it is over (STEPS, if he has COME).")
    private static void far() {
        CorpseTales x = grown("r9;t0070;t0073");
        dueNight(x, order(), 0, 0, 0, 0, 0);
        dueNight(x, times(8, 0), 8, 0, 8, 128, 0);
        dueNight(x, times(9, 0), 9, 0, 9, 128, 1);
        dueNight(x, order(1, 1), 8, 0, 2, 128, 0);
        dueNight(x, order(1, 1, 1), 9, 0, 2, 128, 1);
    }

    @Says("FLIGHTS: how often it has FLOWN.")
    private static void flights() {
        CorpseTales x = grown("r9;t0000");
        dueNight(x, order(), 0, 0, 0, 0, 0);
        dueNight(x, order(0), 1, 0, 1, 1, 0);
        dueNight(x, times(20, 0), 0, 19, 20, 1, 0);
        x.know(0, true);
        dueNight(x, times(20, 0), 0, 20, 20, 1, 0);
    }

    @Says("HEARD: how many TALES were heard out (one by whose 1 STEP he has COME, too).")
    private static void heard() {
        dueNight(grown("r9;t0000"), order(), 0, 0, 0, 0, 0);
        dueNight(believing(grown("r9;t0010"), 0), times(20, 0), 0, 0, 20, 2, 0);
        dueNight(grown("r1;t0000"), order(0), 1, 0, 1, 1, 1);
        dueNight(grown("r1;t0001"), order(0), 1, 0, 0, 0, 1);
        dueNight(grown("r3;t0071"), order(0, 0), 3, 0, 1, 128, 1);
    }

    // ---- promises 6 and 7

    @Says(promise = 6, value = "A NIGHT by an ORDER of n such cells")
    private static void nightFromIOn() {
        for (int lane = BYTES; lane <= INTS; lane++) {
            CorpseTales x = grown("r9;t0000;t1113");
            int[] cells = new int[60];
            cells[58] = 1;
            row(x, 0, lane, cells);
            due(x, 1, "night", 0, lane, 0, 1, 2);
            due(x, 4, "night", 0, lane, 58, 1, 0);
            due(x, 20, "night", 0, lane, 40, 20, 2);
            due(x, 2, "night", 0, lane, 58, 2, 2);
            due(x, 3, "night", 0, lane, 57, 3, 3);
            due(x, 0, "night", 0, lane, 60, 0, 2);
        }
    }

    @Says(promise = 6, value = "FAR (what 0), FLIGHTS (1), HEARD (2), what he KNOWS then, as a set (3).")
    private static void nightWhat() {
        CorpseTales x = knowing(grown("r9;t0010;t2270"), 0);
        row(x, 0, BYTES, 0, 1, 1);
        int[] want = {2, 1, 3, 131};
        for (int what = 0; what < 4; what++) due(x, want[what], "night", 0, BYTES, 0, 3, what);
    }

    @Says(promise = 6, value = "UNKNOWN: SHEET")
    private static void nightUnknownSheet() {
        for (int k : new int[] {-1, 4, MIN, MAX}) {
            refused(busy(), UNKNOWN, "night", k, BYTES, 0, 1, 0);
            refused(bare(), UNKNOWN, "night", k, 3, -1, -1, 4);
        }
    }

    @Says(promise = 6, value = "OUTSIDE: lane, what")
    private static void nightOutside() {
        for (int other : new int[] {-1, MIN, MAX}) {
            refused(busy(), OUTSIDE, "night", ROW, other, 0, 1, 0);
            refused(busy(), OUTSIDE, "night", ROW, BYTES, 0, 1, other);
        }
        refused(busy(), OUTSIDE, "night", ROW, 3, 0, 1, 0);
        refused(busy(), OUTSIDE, "night", ROW, BYTES, 0, 1, 4);
        refused(bare(), OUTSIDE, "night", ROW, 3, -1, -1, 0);
        refused(bare(), OUTSIDE, "night", ROW, BYTES, -1, -1, 4);
        refused(busy(), OUTSIDE, "night", NOTHING, INTS, -1, -1, 4);
    }

    @Says(promise = 6, value = "STATE: there is no FOREST")
    private static void nightState() {
        refused(bare(), STATE, "night", ROW, BYTES, 0, 0, 0);
        refused(bare(), STATE, "night", ROW, INTS, -1, -1, 0);
        refused(bare(), STATE, "night", NOTHING, BYTES, -1, -1, 0);
        refused(bare(), STATE, "night", ROW, BYTES, 0, 21, 0);
    }

    @Says(promise = 6, value = "CAST; NULL; SIZE; INDEX")
    private static void nightFaults() {
        faulted(busy(), CAST, "night", ROW, SHORTS, -1, -1, 0);
        faulted(busy(), CAST, "night", EMPTY_ROW, BYTES, 0, 0, 0);
        for (int lane = BYTES; lane <= INTS; lane++) faulted(busy(), NULL, "night", NOTHING, lane, -1, -1, 0);
        faulted(busy(), SIZE, "night", ROW, BYTES, -1, -1, 0);
        faulted(busy(), SIZE, "night", ROW, BYTES, 0, MIN, 0);
        faulted(busy(), INDEX, "night", ROW, BYTES, -1, 0, 0);
        faulted(busy(), INDEX, "night", ROW, BYTES, ROW_LENGTH + 1, 0, 0);
        faulted(busy(), INDEX, "night", ROW, BYTES, 21, 2, 0);
        faulted(busy(), INDEX, "night", ROW, BYTES, 0, ROW_LENGTH + 1, 0);
        faulted(busy(), INDEX, "night", ROW, BYTES, MAX, MAX, 0);
        faulted(busy(), INDEX, "night", ROW, BYTES, 1, MAX, 0);
    }

    @Says(promise = 6, value = "OUTSIDE: n above 20")
    private static void nightOfTwentyAtMost() {
        due(busy(), 20, "night", ROW, BYTES, 0, 20, 2);
        refused(busy(), OUTSIDE, "night", ROW, BYTES, 0, 21, 2);
        refused(busy(), OUTSIDE, "night", ROW, BYTES, 0, 22, 2);
        CorpseTales x = grown("r1;t0003");
        row(x, ROW, BYTES, new int[60]);
        due(x, 1, "night", ROW, BYTES, 40, 20, 0);
        due(x, OUTSIDE, "night", ROW, BYTES, 39, 21, 0);
        due(x, OUTSIDE, "night", ROW, BYTES, 0, 60, 0);
    }

    @Says(promise = 6, value = "UNKNOWN: a TALE.")
    private static void nightUnknownTale() {
        refused(busy(), UNKNOWN, "night", ROW, BYTES, 20, 1, 0);
        refused(busy(), UNKNOWN, "night", ROW, BYTES, 21, 1, 0);
        refused(busy(), UNKNOWN, "night", ROW, BYTES, 1, 20, 0);
        due(busy(), 0, "night", ROW, BYTES, 20, 0, 0);
        CorpseTales x = grown("r1;t0003");
        for (int tale : new int[] {-1, 1, 8, NONE, 256, 65536, MIN, MAX}) {
            row(x, ROW, INTS, 0, tale);
            due(x, UNKNOWN, "night", ROW, INTS, 1, 1, 0);
            due(x, UNKNOWN, "night", ROW, INTS, 0, 2, 0);
            due(x, 1, "night", ROW, INTS, 0, 1, 0);
        }
    }

    @Says(promise = 7, value = "Whether he has COME by such an ORDER (1, 0).")
    private static void comesOrNot() {
        CorpseTales x = grown("r4;t0073;t1160");
        row(x, 0, BYTES, 0, 1, 1, 1, 1);
        due(x, 0, "comes", 0, BYTES, 0, 0);
        due(x, 1, "comes", 0, BYTES, 0, 1);
        due(x, 0, "comes", 0, BYTES, 1, 3);
        due(x, 1, "comes", 0, BYTES, 1, 4);
        due(x, 1, "comes", 0, BYTES, 0, 5);
        x.know(0, true);
        due(x, 0, "comes", 0, BYTES, 0, 1);
    }

    @Says(promise = 7, value = "As night(), without what.")
    private static void comesAsNight() {
        refused(bare(), UNKNOWN, "comes", -1, 3, -1, -1);
        refused(bare(), UNKNOWN, "comes", 4, 3, -1, -1);
        refused(bare(), OUTSIDE, "comes", ROW, -1, -1, -1);
        refused(bare(), OUTSIDE, "comes", ROW, 3, -1, -1);
        refused(bare(), STATE, "comes", NOTHING, INTS, -1, -1);
        faulted(busy(), CAST, "comes", ROW, INTS, -1, -1);
        faulted(busy(), NULL, "comes", NOTHING, INTS, -1, -1);
        faulted(busy(), SIZE, "comes", ROW, BYTES, -1, -1);
        faulted(busy(), INDEX, "comes", ROW, BYTES, 0, ROW_LENGTH + 1);
        faulted(busy(), INDEX, "comes", ROW, BYTES, ROW_LENGTH + 1, 0);
        due(busy(), 0, "comes", ROW, BYTES, 0, 20);
        refused(busy(), OUTSIDE, "comes", ROW, BYTES, 0, 21);
        refused(busy(), UNKNOWN, "comes", ROW, BYTES, 1, 20);
        refused(busy(), UNKNOWN, "comes", ROW, BYTES, 21, 1);
    }

    public static void main(String[] args) {
        runSentences(NightTest.class);
    }
}
