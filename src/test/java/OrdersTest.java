/** Part 3 of the document, and promises 8 to 10: a test for each sentence that names a bound. */
public final class OrdersTest extends Bench {
    /** FLIGHTS and the row; NONE and no row, if there is none. */
    private static void dueNever(CorpseTales x, int n, int flights, int... row) {
        due(x, flights, "never", n, -1);
        for (int q = 0; q < 5; q++) due(x, q < row.length ? row[q] : NONE, "never", n, q);
    }

    private static void dueStudy(CorpseTales x, int want, int... order) {
        row(x, 2, SHORTS, order);
        due(x, want, "study", 2, SHORTS, 0, order.length);
    }

    private static CorpseTales equalTales(int n) {
        return grown("r9" + ";t0000".repeat(n));
    }

    // ---- NEVER

    @Says("the corpse's ORDER of n TALES (1 .. 5)")
    private static void neverOfOneToFive() {
        CorpseTales x = equalTales(8);
        for (int n = 1; n <= 5; n++) due(x, n - 1, "never", n, -1);
        due(x, OUTSIDE, "never", 0, -1);
        due(x, OUTSIDE, "never", 6, -1);
    }

    @Says("each but once")
    private static void neverTellsEachOnce() {
        for (int tales = 1; tales < 5; tales++) {
            CorpseTales x = equalTales(tales);
            due(x, tales - 1, "never", tales, -1);
            due(x, tales - 1, "never", tales, tales - 1);
            dueNever(x, tales + 1, NONE);
            dueNever(x, 5, NONE);
        }
        dueNever(knowing(grown("r9;t0000;t1110"), 0), 2, 1, 0, 1);
    }

    @Says("by which he does not COME in that night, and all of them are heard out")
    private static void neverDoesNotCome() {
        dueNever(grown("r3;t0010;t2230"), 2, 0, 0, 1);
        dueNever(grown("r2;t0010;t2230"), 2, NONE);
        dueNever(knowing(grown("r2;t0010;t2230"), 0), 2, 1, 0, 1);
        dueNever(knowing(grown("r3;t0010;t2230;t4443"), 0), 3, NONE);
        dueNever(knowing(grown("r5;t0000;t2200;t4443"), 0, 4), 3, 2, 0, 1, 2);
        dueNever(knowing(grown("r4;t0000;t2200;t4443"), 0, 4), 3, 2, 0, 2, 1);
        dueNever(believing(grown("r4;t0003"), 0), 1, 0, 0);
    }

    @Says("with the most FLIGHTS")
    private static void neverHasTheMostFlights() {
        CorpseTales x = grown(WOODS);
        dueNever(x, 1, 0, 0);
        dueNever(x, 2, 1, 1, 2);
        dueNever(x, 3, 2, 1, 2, 0);
        x.know(3, true);
        dueNever(x, 1, 1, 2);
        dueNever(x, 3, 2, 1, 2, 0);
        dueNever(grown("r9;t1120;t2230;t3340;t4450;t0010"), 5, 4, 4, 0, 1, 2, 3);
    }

    @Says("of several the first as a row; NONE: he COMES by each.")
    private static void neverIsTheFirstRow() {
        dueNever(equalTales(8), 5, 4, 0, 1, 2, 3, 4);
        dueNever(grown("r9;t0000;t1110;t2220"), 3, 0, 0, 1, 2);
        dueNever(knowing(grown("r9;t1100;t0000;t2220"), 2), 2, 1, 0, 1);
        dueNever(knowing(grown("r9;t3330;t0010;t2210"), 0, 2), 1, 1, 1);
    }

    @Says("NONE: he COMES by each.")
    private static void neverIsNone() {
        dueNever(grown("r1;t0000"), 1, NONE);
        dueNever(grown("r1;t0003;d1110"), 1, NONE);
        dueNever(knowing(grown("r1;t0000"), 0), 1, 1, 0);
        dueNever(equalTales(1), 2, NONE);
    }

    @Says(promise = 8, value = "NEVER of n: its FLIGHTS (q -1), its q-th TALE (0 on)")
    private static void neverByQ() {
        CorpseTales x = grown("r9;t1120;t2230;t3340;t4450;t0010");
        due(x, 4, "never", 5, -1);
        int[] row = {4, 0, 1, 2, 3};
        for (int q = 0; q < 5; q++) due(x, row[q], "never", 5, q);
    }

    @Says(promise = 8, value = "NONE: there is none, it has fewer.")
    private static void neverHasFewer() {
        for (int n = 1; n <= 5; n++) {
            CorpseTales x = equalTales(8);
            for (int q = 0; q < 5; q++) due(x, q < n ? q : NONE, "never", n, q);
        }
        for (int q = -1; q < 5; q++) due(equalTales(4), NONE, "never", 5, q);
    }

    @Says(promise = 8, value = "OUTSIDE: n (1 .. 5), q (-1 .. 4); STATE: there is no FOREST.")
    private static void neverRefused() {
        for (int n : new int[] {0, 6, -1, MIN, MAX}) {
            refused(busy(), OUTSIDE, "never", n, 0);
            refused(bare(), OUTSIDE, "never", n, 0);
        }
        for (int q : new int[] {-2, 5, MIN, MAX}) {
            refused(busy(), OUTSIDE, "never", 1, q);
            refused(bare(), OUTSIDE, "never", 5, q);
        }
        refused(bare(), STATE, "never", 1, -1);
        refused(bare(), STATE, "never", 5, 4);
    }

    // ---- STUDY

    @Says("the fewest FACTS he must KNOW more ahead of a night, or FORGET (not KNOW though he did)")
    private static void studyIsTheFewest() {
        CorpseTales x = grown("r4;t4563;d4563");
        dueStudy(x, 0, 0);
        dueStudy(knowing(x, 5), 32, 0);
        dueStudy(x, 0, 1);
        dueStudy(knowing(x, 4), 48, 0);
        dueStudy(knowing(grown("r4;t0003;d7613"), 0, 6, 7), 64, 1);
        dueStudy(knowing(grown("r2;t0120;t7721"), 0, 1, 7), 128, 0, 0, 1);
        dueStudy(knowing(grown("r2;t0120;t7721"), 0, 1), 0, 0, 0, 1);
    }

    @Says("so that he COMES by an ORDER: a set of FACTS that are otherwise")
    private static void studyIsWhatIsOtherwise() {
        CorpseTales x = knowing(grown("r4;t0003;t7773"), 0, 1, 2, 3, 4, 5, 6);
        dueStudy(x, 1, 0);
        dueStudy(x, 0, 1);
        due(x, 127, "many", 2);
        CorpseTales all = knowing(grown("r8;t0101;t2321;t4541;t6761"), 0, 1, 2, 3, 4, 5, 6);
        dueStudy(all, 127, 0, 1, 2, 3);
        dueStudy(knowing(all, 7), 255, 0, 1, 2, 3);
    }

    @Says("of the fewest, of several the least; NONE: by none.")
    private static void studyIsTheLeast() {
        dueStudy(knowing(grown("r4;d4503"), 4, 5), 16, 0);
        dueStudy(knowing(grown("r4;d7003"), 0, 7), 1, 0);
        dueStudy(knowing(grown("r5;d0101;d2301;d4501"), 0, 1, 2, 3, 4, 5), 5, 0, 1, 2);
        dueStudy(knowing(grown("r7;t0171;t6671;t7702"), 0, 1, 6), 64, 0, 1, 1, 1, 1);
    }

    @Says("NONE: by none.")
    private static void studyIsNone() {
        dueStudy(grown("r4;t0013"), NONE);
        dueStudy(grown("r4;t0012"), NONE, 0);
        dueStudy(grown("r2;o0010"), NONE, 0, 0);
        dueStudy(believing(knowing(grown("r4;t0013"), 0), 0), NONE, 0);
        dueStudy(knowing(grown("r1;t0000"), 0), 1, 0);
        dueStudy(grown("r1;t0001"), 0, 0);
    }

    @Says(promise = 9, value = "STUDY by an ORDER of n such cells, as a set; NONE.")
    private static void studyFromIOn() {
        for (int lane = BYTES; lane <= INTS; lane++) {
            CorpseTales x = knowing(grown("r4;t0010;t7773"), 7);
            int[] cells = new int[60];
            cells[59] = 1;
            row(x, 0, lane, cells);
            due(x, 128, "study", 0, lane, 59, 1);
            due(x, NONE, "study", 0, lane, 40, 1);
            due(x, 0, "study", 0, lane, 56, 4);
            due(x, NONE, "study", 0, lane, 60, 0);
            due(x, 0, "study", 0, lane, 0, 20);
        }
    }

    @Says(promise = 9, value = "As night(), without what.")
    private static void studyAsNight() {
        refused(bare(), UNKNOWN, "study", -1, 3, -1, -1);
        refused(bare(), UNKNOWN, "study", 4, 3, -1, -1);
        refused(bare(), OUTSIDE, "study", ROW, -1, -1, -1);
        refused(bare(), OUTSIDE, "study", ROW, 3, -1, -1);
        refused(bare(), STATE, "study", NOTHING, INTS, -1, -1);
        faulted(busy(), CAST, "study", ROW, INTS, -1, -1);
        faulted(busy(), NULL, "study", NOTHING, INTS, -1, -1);
        faulted(busy(), SIZE, "study", ROW, BYTES, -1, -1);
        faulted(busy(), INDEX, "study", ROW, BYTES, 0, ROW_LENGTH + 1);
        faulted(busy(), INDEX, "study", ROW, BYTES, ROW_LENGTH + 1, 0);
        due(busy(), NONE, "study", ROW, BYTES, 0, 20);
        refused(busy(), OUTSIDE, "study", ROW, BYTES, 0, 21);
        refused(busy(), UNKNOWN, "study", ROW, BYTES, 1, 20);
        refused(busy(), UNKNOWN, "study", ROW, BYTES, 21, 1);
    }

    // ---- GAME

    @Says("GAME of n (1 .. 4)")
    private static void gameOfOneToFour() {
        CorpseTales x = grown("r9;t0020;t1120;t2230;t3310;t4410");
        for (int n = 1; n <= 4; n++) due(x, n, "game", n);
        due(x, OUTSIDE, "game", 0);
        due(x, OUTSIDE, "game", 5);
    }

    @Says("by turns the corpse tells a TALE not told yet")
    private static void gameTellsEachOnce() {
        CorpseTales x = believing(grown("r9;t0000;t1112"), 0);
        due(x, 0, "game", 1);
        due(x, 3, "game", 2);
        due(knowing(believing(grown("r9;t0050;t1112"), 0), 5), 3, "game", 2);
        CorpseTales flies = knowing(grown("r9;t0000;t1110;t2220"), 0);
        due(flies, 0, "game", 1);
        due(flies, 0, "game", 2);
        due(flies, 0, "game", 3);
    }

    @Says("then the king chooses whether he HARKENS (then it TEACHES him) or not")
    private static void gameKingNeedNotHarken() {
        due(grown("r4;d1231;o3300"), 3, "game", 2);
        due(grown("r9;t0010;t1120;t2230;t3340"), 4, "game", 4);
        due(knowing(grown("r4;d1231;o3300"), 3), 0, "game", 2);
    }

    @Says("till n TALES are told, or all")
    private static void gameEndsAsAllAreTold() {
        CorpseTales x = grown("r9;t0112;d2331");
        due(x, 2, "game", 1);
        for (int n = 2; n <= 4; n++) due(x, 5, "game", n);
        for (int n = 1; n <= 4; n++) due(grown("r9;t0110"), 1, "game", n);
    }

    @Says("the corpse wants FAR the least, the king the most")
    private static void gameLeastAndMost() {
        due(grown("r9;t0003;t1112;t2221;t3330"), 1, "game", 1);
        due(grown("r9;t0003;t1112;t2221;t3330"), 3, "game", 2);
        int[] woods = {1, 2, 4, 4};
        for (int n = 1; n <= 4; n++) due(grown(WOODS), woods[n - 1], "game", n);
        due(believing(grown(WOODS), 3), 1, "game", 2);
        CorpseTales x = knowing(grown("r9;t7701;t1112;t0010"), 0);
        due(x, 0, "game", 1);
        due(x, 0, "game", 2);
        due(x, 0, "game", 3);
    }

    @Says("(he has COME: STEPS): FAR by best play.")
    private static void gameComeIsSteps() {
        due(grown("r1;t0003"), 1, "game", 1);
        due(grown("r2;t0003"), 2, "game", 4);
        due(knowing(grown("r3;t0003"), 0), 3, "game", 1);
        due(knowing(grown("r3;t0003;t1110"), 1), 3, "game", 2);
        due(knowing(grown("r4;t0002;t1110"), 1), 0, "game", 2);
        due(grown("r3;t0000;t1110;t2220;t3330"), 3, "game", 4);
    }

    @Says(promise = 10, value = "GAME of n. OUTSIDE; STATE: there is no FOREST.")
    private static void gameRefused() {
        for (int n : new int[] {0, 5, -1, MIN, MAX}) {
            refused(busy(), OUTSIDE, "game", n);
            refused(bare(), OUTSIDE, "game", n);
        }
        for (int n = 1; n <= 4; n++) refused(bare(), STATE, "game", n);
    }

    public static void main(String[] args) {
        runSentences(OrdersTest.class);
    }
}
