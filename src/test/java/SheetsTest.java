import java.util.Arrays;

/** Part 5 of the document, and promises 15 to 25: a test for each sentence that names a bound. */
public final class SheetsTest extends Bench {
    private static void dueCells(CorpseTales x, int k, int lane, long... want) {
        for (int i = 0; i < want.length; i++) due(x, want[i], "cell", k, i, lane);
        due(x, LOST, "cell", k, want.length, lane);
        due(x, 3, "fault");
    }

    private static CorpseTales with(int lane, int... cells) {
        CorpseTales x = new CorpseTales();
        row(x, 0, lane, cells);
        return x;
    }

    // ---- SHEETS

    @Says("SHEETS 0 .. 3 have nothing (at first)")
    private static void sheetsZeroToThree() {
        CorpseTales x = new CorpseTales();
        for (int k = 0; k < 4; k++) {
            faulted(x, NULL, "put", k, 0, 0);
            due(x, 0, "lose", k);
            due(x, 1, "sheet", k, BYTES, 1);
            due(x, 1, "put", k, 0, k + 5);
        }
        for (int k = 0; k < 4; k++) dueCells(x, k, BYTES, k + 5);
        for (int k : new int[] {-1, 4}) due(x, UNKNOWN, "sheet", k, BYTES, 1);
    }

    @Says("or a row of 0 .. 60 numbers (0 at first)")
    private static void rowsOfZeroToSixty() {
        for (int lane = BYTES; lane <= INTS; lane++) {
            CorpseTales x = new CorpseTales();
            due(x, 1, "sheet", 0, lane, 60);
            dueCells(x, 0, lane, new long[60]);
            for (int i = 0; i < 60; i++) due(x, 1, "put", 0, i, 100 - i);
            due(x, 1, "sheet", 0, lane, 3);
            dueCells(x, 0, lane, 0, 0, 0);
            due(x, 1, "sheet", 0, lane, 0);
            dueCells(x, 0, lane);
            due(x, 1, "sheet", 0, lane, 60);
            dueCells(x, 0, lane, new long[60]);
            due(x, OUTSIDE, "sheet", 0, lane, 61);
        }
    }

    @Says("of a LANE: 0 bytes, 1 shorts, 2 ints; what comes to a cell of it is cut to its LANE.")
    private static void cellsAreCut() {
        int[] put = {127, 128, -128, -129, 255, 256, 32767, 32768, -32768, -32769, 65535, 65536, MAX, MIN};
        dueCells(with(BYTES, put), 0, 0, 127, -128, -128, 127, -1, 0, -1, 0, 0, -1, -1, 0, -1, 0);
        dueCells(with(SHORTS, put), 0, 1,
            127, 128, -128, -129, 255, 256, 32767, -32768, -32768, 32767, -1, 0, -1, 0);
        dueCells(with(INTS, put), 0, 2, Arrays.stream(put).asLongStream().toArray());
    }

    // ---- bodies

    @Says("leave their number in TRACE (an int that wraps, 0 at first, becomes 31 times it and the number)")
    private static void traceWraps() {
        CorpseTales x = grown("r4;t0000");
        due(x, 0, "trace");
        long[] traces = {1, 32, 993, 30784, 954305, 29583456, 917087137, -1635069824, 852443009};
        for (long trace : traces) {
            due(x, 0, "tell", 0);
            due(x, trace, "trace");
        }
    }

    @Says("as they begin")
    private static void bodiesLeaveTheirNumbersAsTheyBegin() {
        CorpseTales x = grown("r4;d0000");
        x.tell(0);
        due(x, 31 * 2 + 1, "trace");
        CorpseTales y = grown("r4;o0000");
        y.tell(0);
        due(y, ((3 * 31 + 2) * 31 + 1) * 31 + 1, "trace");
    }

    @Says("TALE (1): the FACT that it TEACHES.")
    private static void tellingOfATale() {
        CorpseTales x = grown("r4;t1200;t1270");
        due(x, 0, "tell", 0);
        due(x, 1, "trace");
        due(x, 7, "tell", 1);
        due(x, 32, "trace");
    }

    @Says("DOUBLE (2): what TALE's gives, and 100.")
    private static void tellingOfADouble() {
        CorpseTales x = grown("r4;d1200;d1270");
        due(x, 100, "tell", 0);
        due(x, 63, "trace");
        due(x, 107, "tell", 1);
    }

    @Says("OLD (3): what DOUBLE's gives, and what TALE's gives (DOUBLE's left out).")
    private static void tellingOfAnOld() {
        CorpseTales x = grown("r4;o1200;o1270");
        due(x, 100, "tell", 0);
        due(x, 114, "tell", 1);
    }

    @Says("WHISPERED by a lent body (4): its number; OLD ones have their own (5): 50.")
    private static void whispering() {
        CorpseTales x = grown("r4;t1270;d1270;o1270;t1270;d1270;o1270;t1270;d1270");
        int trace = 0;
        for (int t = 0; t < 8; t++) {
            boolean isOld = t == 2 || t == 5;
            due(x, isOld ? 50 : t, "whisper", t);
            trace = 31 * trace + (isOld ? 5 : 4);
            due(x, trace, "trace");
        }
    }

    // ---- promises 15 and 16

    @Says(promise = 15, value = "A SHEET gets a new row: 1.")
    private static void sheetAnew() {
        CorpseTales x = with(BYTES, 1, 2, 3);
        due(x, 1, "sheet", 0, INTS, 2);
        dueCells(x, 0, INTS, 0, 0);
        due(x, 1, "put", 0, 1, 300);
        due(x, 1, "sheet", 0, INTS, 2);
        dueCells(x, 0, INTS, 0, 0);
    }

    @Says(promise = 15, value = "UNKNOWN; OUTSIDE: lane, n above 60; SIZE.")
    private static void sheetRefused() {
        for (int k : new int[] {-1, 4, MIN, MAX}) {
            refused(busy(), UNKNOWN, "sheet", k, BYTES, 1);
            refused(busy(), UNKNOWN, "sheet", k, 3, 61);
            refused(busy(), UNKNOWN, "sheet", k, BYTES, -1);
        }
        for (int lane : new int[] {-1, 3, MIN, MAX}) {
            refused(busy(), OUTSIDE, "sheet", ROW, lane, 1);
            refused(busy(), OUTSIDE, "sheet", ROW, lane, -1);
        }
        for (int n : new int[] {61, MAX}) refused(busy(), OUTSIDE, "sheet", ROW, BYTES, n);
        for (int n : new int[] {-1, MIN}) {
            faulted(busy(), SIZE, "sheet", ROW, BYTES, n);
            faulted(busy(), SIZE, "sheet", NOTHING, INTS, n);
        }
        due(busy(), 1, "sheet", ROW, BYTES, 0);
        due(busy(), 1, "sheet", ROW, BYTES, 60);
    }

    @Says(promise = 16, value = "A SHEET has nothing: 1; 0: it had nothing.")
    private static void loseOnce() {
        for (int k : new int[] {ROW, SHORT_ROW, EMPTY_ROW}) {
            CorpseTales x = busy();
            due(x, 1, "lose", k);
            faulted(x, NULL, "put", k, 0, 0);
            due(x, 0, "lose", k);
        }
        due(busy(), 0, "lose", NOTHING);
        CorpseTales one = busy();
        due(one, 1, "lose", ROW);
        due(one, 'r', "cell", SHORT_ROW, 0, SHORTS);
    }

    @Says(promise = 16, value = "UNKNOWN.")
    private static void loseUnknown() {
        for (int k : new int[] {-1, 4, MIN, MAX}) refused(busy(), UNKNOWN, "lose", k);
    }

    // ---- promises 17 and 18

    @Says(promise = 17, value = "Cell i of a SHEET becomes v: 1.")
    private static void putOne() {
        CorpseTales x = with(INTS, new int[60]);
        due(x, 1, "put", 0, 0, MIN);
        due(x, 1, "put", 0, 59, MAX);
        due(x, MIN, "cell", 0, 0, INTS);
        due(x, 0, "cell", 0, 1, INTS);
        due(x, 0, "cell", 0, 58, INTS);
        due(x, MAX, "cell", 0, 59, INTS);
        due(x, 0, "fault");
    }

    @Says(promise = 17, value = "UNKNOWN; NULL; INDEX.")
    private static void putRefused() {
        for (int k : new int[] {-1, 4, MIN, MAX}) refused(busy(), UNKNOWN, "put", k, -1, 1);
        for (int i : new int[] {-1, 0, 60}) faulted(busy(), NULL, "put", NOTHING, i, 1);
        for (int i : new int[] {-1, ROW_LENGTH, 60, MIN, MAX}) faulted(busy(), INDEX, "put", ROW, i, 1);
        faulted(busy(), INDEX, "put", EMPTY_ROW, 0, 1);
        due(busy(), 1, "put", ROW, ROW_LENGTH - 1, 1);
    }

    @Says(promise = 18, value = "Cell i of what a SHEET has, taken as a row of a LANE.")
    private static void cellOfEachLane() {
        for (int lane = BYTES; lane <= INTS; lane++) dueCells(with(lane, 5, -6, 0), 0, lane, 5, -6, 0);
    }

    @Says(promise = 18, value = "LOST: UNKNOWN, OUTSIDE: lane; FAULTS CAST (nothing is no CAST), NULL, INDEX.")
    private static void cellRefused() {
        for (int k : new int[] {-1, 4, MIN, MAX}) refused(busy(), UNKNOWN, "cell", k, -1, BYTES);
        for (int lane : new int[] {-1, 3, MIN, MAX}) {
            refused(busy(), OUTSIDE, "cell", ROW, -1, lane);
            refused(busy(), OUTSIDE, "cell", NOTHING, 0, lane);
        }
        faulted(busy(), CAST, "cell", ROW, -1, SHORTS);
        faulted(busy(), CAST, "cell", ROW, 0, INTS);
        faulted(busy(), CAST, "cell", EMPTY_ROW, 0, SHORTS);
        for (int lane = BYTES; lane <= INTS; lane++) faulted(busy(), NULL, "cell", NOTHING, -1, lane);
        for (int i : new int[] {-1, ROW_LENGTH, 60, MIN, MAX}) faulted(busy(), INDEX, "cell", ROW, i, BYTES);
        faulted(busy(), INDEX, "cell", EMPTY_ROW, 0, INTS);
    }

    // ---- promise 19

    @Says(promise = 19, value = "n cells of a SHEET from i on go to another one (perhaps the same) from j on")
    private static void copyFromTo() {
        CorpseTales x = with(SHORTS, 1, 2, 3, 4);
        row(x, 1, SHORTS, 9, 9, 9);
        due(x, 0, "copy", 0, 4, 1, 3, 0);
        dueCells(x, 1, SHORTS, 9, 9, 9);
        due(x, 2, "copy", 0, 2, 1, 1, 2);
        due(x, 0, "fault");
        dueCells(x, 1, SHORTS, 9, 3, 4);
        dueCells(x, 0, SHORTS, 1, 2, 3, 4);
        due(x, 3, "copy", 1, 0, 0, 0, 3);
        dueCells(x, 0, SHORTS, 9, 3, 4, 4);
        CorpseTales whole = with(INTS, new int[60]);
        row(whole, 1, INTS, new int[60]);
        whole.put(0, 0, MIN);
        whole.put(0, 59, MAX);
        due(whole, 60, "copy", 0, 0, 1, 0, 60);
        due(whole, MIN, "cell", 1, 0, INTS);
        due(whole, MAX, "cell", 1, 59, INTS);
    }

    @Says(promise = 19, value = "as they were: n.")
    private static void copyAsTheyWere() {
        CorpseTales right = with(BYTES, 1, 2, 3, 4, 5);
        due(right, 4, "copy", 0, 0, 0, 1, 4);
        dueCells(right, 0, BYTES, 1, 1, 2, 3, 4);
        CorpseTales left = with(BYTES, 1, 2, 3, 4, 5);
        due(left, 4, "copy", 0, 1, 0, 0, 4);
        dueCells(left, 0, BYTES, 2, 3, 4, 5, 5);
        CorpseTales same = with(BYTES, 1, 2, 3, 4, 5);
        due(same, 5, "copy", 0, 0, 0, 0, 5);
        dueCells(same, 0, BYTES, 1, 2, 3, 4, 5);
    }

    @Says(promise = 19, value = "UNKNOWN; FAULTS NULL")
    private static void copyUnknown() {
        for (int k : new int[] {-1, 4, MIN, MAX}) {
            refused(busy(), UNKNOWN, "copy", k, 0, ROW, 0, 1);
            refused(busy(), UNKNOWN, "copy", ROW, 0, k, 0, 1);
            refused(busy(), UNKNOWN, "copy", NOTHING, -1, k, -1, -1);
            refused(busy(), UNKNOWN, "copy", k, -1, NOTHING, -1, -1);
        }
    }

    @Says(promise = 19, value = "NULL (the first, the other)")
    private static void copyNull() {
        faulted(busy(), NULL, "copy", NOTHING, 0, ROW, 0, 0);
        faulted(busy(), NULL, "copy", ROW, 0, NOTHING, 0, 0);
        faulted(busy(), NULL, "copy", NOTHING, 0, NOTHING, 0, 0);
        faulted(busy(), NULL, "copy", NOTHING, -1, ROW, -1, -1);
        faulted(busy(), NULL, "copy", ROW, -1, NOTHING, -1, -1);
    }

    @Says(promise = 19, value = "CAST (unlike LANES)")
    private static void copyCast() {
        faulted(busy(), CAST, "copy", ROW, 0, SHORT_ROW, 0, 1);
        faulted(busy(), CAST, "copy", SHORT_ROW, 0, ROW, 0, 1);
        faulted(busy(), CAST, "copy", ROW, 0, EMPTY_ROW, 0, 0);
        faulted(busy(), CAST, "copy", EMPTY_ROW, -1, SHORT_ROW, -1, -1);
    }

    @Says(promise = 19, value = "INDEX: i, j, n below 0 or beyond.")
    private static void copyIndex() {
        int[][] places = {
            {-1, 0, 0}, {-1, 0, 1}, {MIN, 0, 1}, {ROW_LENGTH + 1, 0, 0}, {ROW_LENGTH, 0, 1}, {1, 0, ROW_LENGTH},
            {0, -1, 0}, {0, -1, 1}, {0, MIN, 1}, {0, ROW_LENGTH + 1, 0}, {0, ROW_LENGTH, 1}, {0, 1, ROW_LENGTH},
            {0, 0, -1}, {0, 0, MIN}, {0, 0, ROW_LENGTH + 1}, {0, 0, MAX}, {1, 0, MAX}, {0, 1, MAX}, {MAX, MAX, MAX},
            {ROW_LENGTH, 0, -1}, {0, ROW_LENGTH, -1}, {MAX, 0, MIN}, {0, MAX, MIN}, {MIN, 0, MIN}, {0, MIN, MIN},
        };
        for (int[] p : places) faulted(busy(), INDEX, "copy", ROW, p[0], ROW, p[1], p[2]);
    }

    @Says(promise = 19, value = "below 0 or beyond.")
    private static void copyIndexOfUnlikeRows() {
        CorpseTales x = with(BYTES, 1, 2, 3);
        row(x, 1, BYTES, 8, 9);
        faulted(x, INDEX, "copy", 0, 0, 1, 0, 3);
        faulted(x, INDEX, "copy", 1, 0, 0, 0, 3);
        faulted(x, INDEX, "copy", 0, 0, 1, 1, 2);
        faulted(x, INDEX, "copy", 1, 1, 0, 0, 2);
        due(x, 2, "copy", 0, 1, 1, 0, 2);
        dueCells(x, 1, BYTES, 2, 3);
    }

    // ---- promises 20 to 22

    private static void dueUnknownTale(String call) {
        for (int t : new int[] {-1, 4, 8, MIN, MAX}) refused(busy(), UNKNOWN, call, t);
        refused(bare(), UNKNOWN, call, 0);
    }

    @Says(promise = 20, value = "TELLING of a TALE. UNKNOWN.")
    private static void tellUnknown() {
        dueUnknownTale("tell");
        due(busy(), 2, "tell", 0);
        due(busy(), 6, "tell", 3);
    }

    @Says(promise = 21, value = "How it is WHISPERED. UNKNOWN.")
    private static void whisperUnknown() {
        dueUnknownTale("whisper");
        due(busy(), 0, "whisper", 0);
        due(busy(), 3, "whisper", 3);
    }

    @Says(promise = 22, value = "A TALE, taken as one of a kind: 1.")
    private static void asOneOfAKind() {
        for (int kind = 0; kind < 3; kind++) {
            CorpseTales x = busy();
            due(x, 1, "as", 2, kind);
            due(x, 0, "fault");
        }
        due(busy(), 1, "as", 0, 0);
        due(busy(), 1, "as", 1, 0);
        due(busy(), 1, "as", 1, 1);
    }

    @Says(promise = 22, value = "UNKNOWN; OUTSIDE; CAST: it is none.")
    private static void asRefused() {
        for (int t : new int[] {-1, 4, 8, MIN, MAX}) {
            refused(busy(), UNKNOWN, "as", t, 0);
            refused(busy(), UNKNOWN, "as", t, 3);
        }
        refused(bare(), UNKNOWN, "as", 0, 0);
        for (int kind : new int[] {-1, 3, MIN, MAX}) {
            refused(busy(), OUTSIDE, "as", 0, kind);
            refused(busy(), OUTSIDE, "as", 2, kind);
        }
        faulted(busy(), CAST, "as", 0, 1);
        faulted(busy(), CAST, "as", 0, 2);
        faulted(busy(), CAST, "as", 1, 2);
    }

    // ---- promises 23 to 25

    @Says(promise = 23, value = "TRACE.")
    private static void traceStaysByOtherCalls() {
        CorpseTales x = new CorpseTales();
        due(x, 0, "trace");
        x.tell(0);
        x.whisper(0);
        due(x, 0, "trace");
        take(x, WOODS);
        x.tell(0);
        x.as(2, 2);
        x.as(0, 2);
        x.ofTale(0, 5);
        x.never(3, -1);
        x.game(2);
        dueNight(x, order(0, 1), 3, 0, 2, 12, 0);
        due(x, 1, "trace");
        due(x, 1, "trace");
        take(x, WOODS);
        due(x, 1, "trace");
    }

    @Says(promise = 24, value = "The FAULT of the latest call that names one")
    private static void faultOfTheLatest() {
        CorpseTales x = busy();
        due(x, NULL, "put", NOTHING, 0, 0);
        due(x, 1, "fault");
        due(x, 1, "fault");
        due(x, CAST, "as", 0, 2);
        due(x, 2, "fault");
        due(x, INDEX, "put", ROW, -1, 0);
        due(x, 3, "fault");
        due(x, SIZE, "sheet", ROW, BYTES, -1);
        for (String[] call : new String[][] {
            {"ofTale", "0", "0"}, {"know", "0", "1"}, {"believe", "0", "1"}, {"never", "1", "0"}, {"game", "1"},
            {"porter", "1", "0", "0"}, {"reading", "0", "0", "0"}, {"back", "1"}, {"fits", "0"}, {"lose", "0"},
            {"tell", "0"}, {"whisper", "0"}, {"trace"}, {"fault"}, {"many", "0"},
        }) {
            answer(x, call[0], Arrays.stream(call).skip(1).mapToInt(Integer::parseInt).toArray());
            due("fault() behind " + call[0], x.fault(), 4);
        }
    }

    private static void dueFaultless(String call, int... with) {
        CorpseTales x = busy();
        due(x, SIZE, "sheet", ROW, BYTES, -1);
        answer(x, call, with);
        due("fault() behind " + call + Arrays.toString(with), x.fault(), 0);
    }

    @Says(promise = 24, value = "0: it came to none, or was refused (0 ahead of any).")
    private static void faultIsZero() {
        due(new CorpseTales(), 0, "fault");
        dueFaultless("forest", SHORT_ROW, SHORTS, 0, 8);
        dueFaultless("forest", SHORT_ROW, SHORTS, 0, 7);
        dueFaultless("forest", 4, SHORTS, 0, 8);
        dueFaultless("night", ROW, BYTES, 0, 1, 0);
        dueFaultless("night", ROW, BYTES, 0, 21, 0);
        dueFaultless("night", ROW, BYTES, 0, 1, 4);
        dueFaultless("comes", ROW, BYTES, 0, 1);
        dueFaultless("comes", ROW, BYTES, 20, 1);
        dueFaultless("study", ROW, BYTES, 0, 1);
        dueFaultless("study", ROW, 3, 0, 1);
        dueFaultless("sheet", ROW, BYTES, 1);
        dueFaultless("sheet", ROW, BYTES, 61);
        dueFaultless("put", ROW, 0, 1);
        dueFaultless("put", 4, 0, 1);
        dueFaultless("cell", ROW, 0, BYTES);
        dueFaultless("cell", ROW, 0, 3);
        dueFaultless("copy", ROW, 0, ROW, 0, 1);
        dueFaultless("copy", ROW, 0, 4, 0, 1);
        dueFaultless("as", 0, 0);
        dueFaultless("as", 0, 3);
        dueFaultless("as", 4, 0);
    }

    @Says(promise = 25, value = "0 TALES, 1 STEPS, 2 FACTS that he KNOWS, as a set, 3 that he BELIEVES, as a set, 4 READINGS")
    private static void manyOfEach() {
        int[] many = {4, 4, 132, 16, 2};
        for (int what = 0; what < 5; what++) due(busy(), many[what], "many", what);
        CorpseTales x = grown("r9" + ";t0000".repeat(8));
        for (int fact = 0; fact < 8; fact++) believing(knowing(x, fact), fact);
        for (int k = 0; k < 8; k++) x.reading(0, NONE, 0);
        int[] most = {8, 9, 255, 255, 8};
        for (int what = 0; what < 5; what++) due(x, most[what], "many", what);
    }

    @Says(promise = 25, value = "(0 all without a FOREST)")
    private static void manyWithoutAForest() {
        for (int what = 0; what < 5; what++) due(bare(), 0, "many", what);
        CorpseTales x = bare();
        x.forest(SHORT_ROW, SHORTS, 0, 7);
        for (int what = 0; what < 5; what++) due(x, 0, "many", what);
    }

    @Says(promise = 25, value = "OUTSIDE.")
    private static void manyOutside() {
        for (int what : new int[] {-1, 5, MIN, MAX}) {
            refused(busy(), OUTSIDE, "many", what);
            refused(bare(), OUTSIDE, "many", what);
        }
    }

    public static void main(String[] args) {
        runSentences(SheetsTest.class);
    }
}
