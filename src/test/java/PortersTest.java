/** Part 4 of the document, and promises 11 to 14: a test for each sentence that names a bound. */
public final class PortersTest extends Bench {
    private static void duePorter(CorpseTales x, int w, int t, long upper, long lower) {
        due(x, upper, "porter", w, t, 0);
        due(x, lower, "porter", w, t, 1);
    }

    private static void dueFits(CorpseTales x, int many, int least, int strange) {
        due(x, many, "fits", 0);
        due(x, least, "fits", 1);
        due(x, strange, "fits", 2);
    }

    private static CorpseTales seen(CorpseTales x, int... readings) {
        for (int k = 0; k + 2 < readings.length; k += 3) x.reading(readings[k], readings[k + 1], readings[k + 2]);
        return x;
    }

    // ---- PORTERS

    @Says("A PORTER of wits w (0 .. 8) KNOWS each FACT by w eighths, each for itself")
    private static void witsZeroToEight() {
        CorpseTales x = grown("r4;t0100;d0100;o0100;t0000;d0000;o0000");
        for (int t = 0; t < 6; t++) {
            duePorter(x, 0, t, 1, 1);
            duePorter(x, 8, t, 0, 1);
            duePorter(x, -1, t, LOST, LOST);
            duePorter(x, 9, t, LOST, LOST);
        }
        int[][] uppers = {{49, 63, 63, 7, 7, 7}, {1, 15, 15, 1, 1, 1}};
        int[] lowers = {64, 64, 64, 8, 8, 8};
        for (int t = 0; t < 6; t++) {
            duePorter(x, 1, t, uppers[0][t], lowers[t]);
            duePorter(x, 7, t, uppers[1][t], lowers[t]);
        }
    }

    @Says("in place of what the king KNOWS, BELIEVES nothing")
    private static void aPorterIsNoKing() {
        CorpseTales x = believing(knowing(grown("r4;t0100;d0100"), 0, 1), 0, 1);
        duePorter(x, 0, 0, 1, 1);
        duePorter(x, 3, 0, 25, 64);
        duePorter(x, 3, 1, 55, 64);
    }

    @Says("ODDS that he does not KNOW the answer to one TALE (heard ahead of nothing).")
    private static void aPorterHasHeardNothing() {
        CorpseTales x = grown("r4;o0100");
        dueNight(x, order(0, 0), 0, 1, 2, 1, 0);
        duePorter(x, 0, 0, 1, 1);
        duePorter(x, 4, 0, 3, 4);
    }

    @Says(promise = 11, value = "ODDS of a PORTER (which 0 the upper, 1 the lower number).")
    private static void porterWhich() {
        due(grown(WOODS), 25, "porter", 3, 0, 0);
        due(grown(WOODS), 64, "porter", 3, 0, 1);
    }

    @Says(promise = 11, value = "LOST: UNKNOWN: TALE; OUTSIDE: w, which.")
    private static void porterRefused() {
        for (int t : new int[] {-1, 4, 8, MIN, MAX}) refused(busy(), UNKNOWN, "porter", 0, t, 0);
        for (int w : new int[] {-1, 9, MIN, MAX}) refused(busy(), OUTSIDE, "porter", w, 0, 0);
        for (int which : new int[] {-1, 2, MIN, MAX}) refused(busy(), OUTSIDE, "porter", 8, 3, which);
        refused(bare(), UNKNOWN, "porter", 0, 0, 0);
        refused(bare(), UNKNOWN, "porter", 9, 0, 2);
    }

    // ---- READINGS

    @Says("READINGS, 8 at most, numbered by how many there are")
    private static void eightReadings() {
        CorpseTales x = grown(WOODS);
        for (int k = 0; k < 8; k++) {
            due(x, k, "many", 4);
            due(x, k, "reading", k % 4, NONE, k);
        }
        due(x, 8, "many", 4);
        due(x, FULL, "reading", 0, NONE, 0);
        due(x, 8, "many", 4);
        due(x, 7, "back", 1);
        due(x, 7, "reading", 0, NONE, 0);
        due(x, FULL, "reading", 0, NONE, 0);
    }

    @Says("by an ORDER of one, two TALES (the second one NONE: of one) he was FAR so many STEPS.")
    private static void readingsOfOneAndTwo() {
        String text = "r4;t0000;t7703";
        dueFits(seen(grown(text), 0, NONE, 1), 128, 0, 1);
        dueFits(seen(grown(text), 0, NONE, 0), 128, 1, 0);
        dueFits(seen(grown(text), 0, 0, 0), 256, 0, 0);
        dueFits(seen(grown(text), 0, 0, 1), 0, NONE, 255);
        dueFits(seen(grown(text), 1, 0, 4), 128, 0, 128);
        dueFits(seen(grown(text), 1, 0, 0), 128, 128, 0);
        dueFits(seen(grown(text), 0, NONE, 9), 0, NONE, 255);
    }

    @Says("FITS: sets of FACTS that he KNEW at first (in place of what he KNOWS), by which all READINGS are so")
    private static void fitsInPlaceOfWhatHeKnows() {
        CorpseTales x = knowing(seen(grown("r4;t0000;t7770"), 0, NONE, 1), 0, 5);
        dueFits(x, 128, 0, 1);
        seen(x, 1, NONE, 0);
        dueFits(x, 64, 128, 1);
        due(x, 33, "many", 2);
        seen(x, 0, NONE, 0);
        dueFits(x, 0, NONE, 255);
    }

    @Says("how many; the least of them.")
    private static void fitsFromNoneToAll() {
        dueFits(grown("r1;t0000"), 256, 0, 0);
        dueFits(seen(grown("r1;t0000"), 0, NONE, 1), 128, 0, 1);
        CorpseTales all = grown("r9;d0100;d2300;d4500;d6700");
        dueFits(seen(all, 0, NONE, 0, 1, NONE, 0, 2, NONE, 0, 3, NONE, 0), 1, 255, 0);
        CorpseTales none = grown("r9;t0100;t2300;t4500;t6700");
        dueFits(seen(none, 0, NONE, 1, 1, NONE, 1, 2, NONE, 1, 3, NONE, 1), 1, 0, 255);
    }

    @Says("STRANGE: FACTS in none of these sets, as a set (all, if there are none).")
    private static void strange() {
        dueFits(grown("r9;t0000"), 256, 0, 0);
        dueFits(seen(grown("r9;t0700"), 0, NONE, 1), 64, 0, 129);
        dueFits(seen(grown("r9;t0700"), 0, NONE, 2), 0, NONE, 255);
    }

    @Says(promise = 12, value = "A READING: its number.")
    private static void readingNumber() {
        CorpseTales x = grown(WOODS);
        due(x, 0, "reading", 0, NONE, 0);
        due(x, 1, "reading", 3, 3, 9);
        due(x, 2, "reading", 3, 0, 9);
    }

    @Says(promise = 12, value = "UNKNOWN: t, other (NONE may be)")
    private static void readingUnknown() {
        for (int t : new int[] {-1, 4, NONE, MIN, MAX}) {
            refused(busy(), UNKNOWN, "reading", t, NONE, 0);
            refused(busy(), UNKNOWN, "reading", t, 0, 10);
        }
        for (int other : new int[] {-1, 4, -8, -10, MIN, MAX}) {
            refused(busy(), UNKNOWN, "reading", 0, other, 0);
            refused(busy(), UNKNOWN, "reading", 3, other, 10);
        }
        refused(bare(), UNKNOWN, "reading", 0, NONE, 0);
        due(busy(), 2, "reading", 3, 3, 0);
        due(busy(), 2, "reading", 3, NONE, 0);
    }

    @Says(promise = 12, value = "OUTSIDE: far (0 .. 9)")
    private static void readingFarZeroToNine() {
        for (int far = 0; far <= 9; far++) due(busy(), 2, "reading", 0, NONE, far);
        for (int far : new int[] {-1, 10, MIN, MAX}) refused(busy(), OUTSIDE, "reading", 0, NONE, far);
    }

    @Says(promise = 12, value = "FULL.")
    private static void readingFull() {
        refused(fullOfReadings(), FULL, "reading", 0, NONE, 0);
        refused(fullOfReadings(), OUTSIDE, "reading", 0, NONE, 10);
        refused(fullOfReadings(), UNKNOWN, "reading", 0, 4, 0);
        refused(fullOfReadings(), UNKNOWN, "reading", 4, NONE, 0);
    }

    private static CorpseTales fullOfReadings() {
        CorpseTales x = busy();
        for (int k = 2; k < 8; k++) due(x, k, "reading", 0, NONE, 1);
        return x;
    }

    @Says(promise = 13, value = "The last k READINGS (0 .. as many as there are) are taken back: how many are left.")
    private static void backTheLast() {
        CorpseTales x = seen(grown("r4;t0000;t7770"), 0, NONE, 1, 1, NONE, 0, 0, NONE, 0);
        dueFits(x, 0, NONE, 255);
        due(x, 3, "back", 0);
        dueFits(x, 0, NONE, 255);
        due(x, 2, "back", 1);
        dueFits(x, 64, 128, 1);
        due(x, 1, "back", 1);
        dueFits(x, 128, 0, 1);
        due(x, 0, "back", 1);
        dueFits(x, 256, 0, 0);
        due(x, 0, "back", 0);
        CorpseTales all = seen(grown("r4;t0000"), 0, NONE, 1, 0, NONE, 1, 0, NONE, 1, 0, NONE, 1);
        seen(all, 0, NONE, 1, 0, NONE, 1, 0, NONE, 1, 0, NONE, 1);
        due(all, 0, "back", 8);
        due(all, 0, "many", 4);
    }

    @Says(promise = 13, value = "OUTSIDE.")
    private static void backOutside() {
        for (int k : new int[] {-1, 3, 8, MIN, MAX}) refused(busy(), OUTSIDE, "back", k);
        refused(bare(), OUTSIDE, "back", 1);
        refused(bare(), OUTSIDE, "back", -1);
        due(bare(), 0, "back", 0);
    }

    @Says(promise = 14, value = "FITS: how many (what 0), the least (1; NONE), STRANGE ones, as a set (2).")
    private static void fitsWhat() {
        dueFits(seen(grown("r9;t0700"), 0, NONE, 0), 192, 1, 0);
        dueFits(seen(grown("r9;t0700"), 0, NONE, 0, 0, NONE, 1), 0, -9, 255);
    }

    @Says(promise = 14, value = "OUTSIDE; STATE: there is no FOREST.")
    private static void fitsRefused() {
        for (int what : new int[] {-1, 3, MIN, MAX}) {
            refused(busy(), OUTSIDE, "fits", what);
            refused(bare(), OUTSIDE, "fits", what);
        }
        for (int what = 0; what < 3; what++) refused(bare(), STATE, "fits", what);
    }

    public static void main(String[] args) {
        runSentences(PortersTest.class);
    }
}
