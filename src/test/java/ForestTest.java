/** Part 1 of the document, and promises 1 to 5: a test for each sentence that names a bound. */
public final class ForestTest extends Bench {
    private static final String EIGHT = "r5;t0120;d1231;o2342;t3453;d4560;o5671;t6702;d7013";

    private static void dueText(String text, int want) {
        due("the text " + text, take(new CorpseTales(), text), want);
    }

    private static String with(String text, int place, char code) {
        return text.substring(0, place) + code + text.substring(place + 1);
    }

    /** At this place of a TEXT of one TALE, least to most go on, those beside them do not; what: of ofTale(). */
    private static void dueDigit(int place, char most, int what) {
        for (char code = '0'; code <= most; code++) {
            CorpseTales x = grown(with("r5;t0000", place, code));
            due(x, code - '0', "ofTale", 0, what);
        }
        dueText(with("r5;t0000", place, '/'), -100 - place);
        dueText(with("r5;t0000", place, (char) (most + 1)), -100 - place);
        dueText(with("r5;t0000", place, 't'), -100 - place);
    }

    // ---- the TEXT

    @Says("r, a digit 1 .. 9 (STEPS from the tree to the circle)")
    private static void stepsOneToNine() {
        for (int steps = 1; steps <= 9; steps++) due(grown("r" + steps + ";t0000"), steps, "many", 1);
        dueText("r0;t0000", -101);
        dueText("r/;t0000", -101);
        dueText("r:;t0000", -101);
        for (String text : new String[] {"q5;t0000", "s5;t0000", "R5;t0000", "55;t0000"}) dueText(text, -100);
    }

    @Says("then 1 to 8 TALES")
    private static void oneToEightTales() {
        for (int tales = 1; tales <= 8; tales++) {
            CorpseTales x = grown(EIGHT.substring(0, 2 + 6 * tales));
            due(x, tales, "many", 0);
        }
        dueText("r5", -102);
        dueText(EIGHT + ";t0000", -150);
    }

    @Says("numbered from 0 on")
    private static void talesFromZeroOn() {
        CorpseTales x = grown(EIGHT);
        for (int t = 0; t < 8; t++) due(x, t, "ofTale", t, 1);
        due(x, UNKNOWN, "ofTale", -1, 1);
        due(x, UNKNOWN, "ofTale", 8, 1);
    }

    @Says("each: ; and a letter")
    private static void semicolonAndLetter() {
        dueText("r5:t0000", -102);
        dueText("r5<t0000", -102);
        dueText("r5t0000", -102);
        for (char letter : "csunpeTDO;r0".toCharArray()) dueText("r5;" + letter + "0000", -103);
        for (char letter : "tdo".toCharArray()) dueText("r5;" + letter + "0000", 1);
        dueText("r5;t0000:t0000", -108);
        dueText("r5;t0000;x0000", -109);
    }

    @Says("a digit 0 .. 7 (NEEDS),")
    private static void firstNeedZeroToSeven() {
        dueDigit(4, '7', 1);
    }

    @Says("a digit 0 .. 7 (NEEDS, too)")
    private static void secondNeedZeroToSeven() {
        dueDigit(5, '7', 2);
    }

    @Says("a digit 0 .. 7 (TEACHES)")
    private static void teachesZeroToSeven() {
        dueDigit(6, '7', 3);
    }

    @Says("a digit 0 .. 3 (LONG, in STEPS)")
    private static void longZeroToThree() {
        dueDigit(7, '3', 4);
    }

    @Says("FIRST FAULT: the place (from 0 on) of the first code with which no TEXT goes on")
    private static void firstFaultAtEachPlace() {
        for (int place = 0; place < EIGHT.length(); place++) {
            String flawed = with(EIGHT, place, 'x');
            dueText(flawed, -100 - place);
            dueText(with(flawed, EIGHT.length() - 1, 'x'), -100 - place);
            dueText(flawed.substring(0, place + 1), -100 - place);
        }
    }

    @Says("(the ; of a ninth TALE)")
    private static void firstFaultIsTheNinth() {
        dueText(EIGHT, 8);
        dueText(EIGHT + ";", -150);
        dueText(EIGHT + ";t000", -150);
        dueText(EIGHT + ";t0000", -150);
        dueText(EIGHT + "x", -150);
    }

    @Says("how many codes there are, if it just ends too soon")
    private static void firstFaultIsTheEnd() {
        for (int n = 0; n < EIGHT.length(); n++) {
            boolean isWhole = n > 2 && n % 6 == 2;
            dueText(EIGHT.substring(0, n), isWhole ? n / 6 : -100 - n);
        }
    }

    @Says("(Codes: r 114, t 116, d 100, o 111, ; 59, digits 48 .. 57.)")
    private static void codesByTheirNumbers() {
        int[] text = {114, 57, 59, 116, 48, 55, 48, 51, 59, 100, 55, 48, 55, 48, 59, 111, 49, 50, 51, 49};
        for (int lane = BYTES; lane <= INTS; lane++) {
            CorpseTales x = new CorpseTales();
            row(x, 0, lane, text);
            due(x, 3, "forest", 0, lane, 0, 20);
            due(x, 9, "many", 1);
        }
        for (int place = 0; place < text.length; place++) {
            CorpseTales x = new CorpseTales();
            row(x, 0, INTS, text);
            for (int other : new int[] {text[place] + 256, text[place] + 65536, -text[place], MIN, MAX}) {
                x.put(0, place, other);
                due(x, -100 - place, "forest", 0, INTS, 0, 20);
            }
        }
    }

    @Says("Kinds: 0 TALE (t); 1 DOUBLE (d), a TALE; 2 OLD (o), a DOUBLE.")
    private static void kinds() {
        CorpseTales x = grown("r5;t0000;d0000;o0000");
        for (int kind = 0; kind < 3; kind++) {
            due(x, kind, "ofTale", kind, 0);
            for (int as = 0; as < 3; as++) due(x, as <= kind ? 1 : CAST, "as", kind, as);
        }
    }

    @Says("A TEXT that is taken makes all anew: the king KNOWS no FACT, BELIEVES none, no READINGS.")
    private static void aTakenTextMakesAllAnew() {
        CorpseTales x = busy();
        due(x, 1, "forest", SHORT_ROW, SHORTS, 0, 8);
        int[] many = {1, 7, 0, 0, 0};
        for (int what = 0; what < 5; what++) due(x, many[what], "many", what);
        int[] tale = {1, 0, 1, 1, 2, 0};
        for (int what = 0; what < 6; what++) due(x, tale[what], "ofTale", 0, what);
        for (int t = 1; t < 5; t++) due(x, UNKNOWN, "ofTale", t, 0);
        due(x, 256, "fits", 0);
        due(x, 0, "reading", 0, NONE, 0);
        CorpseTales same = busy();
        take(same, WOODS);
        due("the same text once more", same.many(2) + same.many(3) + same.many(4), 0);
    }

    @Says("FACTS are 0 .. 7.")
    private static void factsZeroToSeven() {
        for (int fact = 0; fact < 8; fact++) {
            due(grown(WOODS), 1, "know", fact, 1);
            due(grown(WOODS), 1, "believe", fact, 1);
        }
        for (int fact : new int[] {-1, 8, 32, MIN, MAX}) {
            refused(busy(), UNKNOWN, "know", fact, 1);
            refused(busy(), UNKNOWN, "believe", fact, 1);
        }
    }

    /** Whether he KNOWS the answer to the TALE if he KNOWS neither FACT, the first, the second, both. */
    private static void dueAnswers(String tale, int... want) {
        for (int set = 0; set < 4; set++) {
            CorpseTales x = grown("r5;" + tale + "00");
            if ((set & 1) != 0) x.know(tale.charAt(1) - '0', true);
            if ((set & 2) != 0) x.know(tale.charAt(2) - '0', true);
            due(x, want[set], "ofTale", 0, 5);
        }
    }

    @Says("of a TALE one of both FACTS that it NEEDS, or both")
    private static void aTaleTakesOne() {
        dueAnswers("t07", 0, 1, 1, 1);
        dueAnswers("t77", 0, 1, 1, 1);
        due(knowing(grown("r5;t0700"), 1, 2, 3, 4, 5, 6), 0, "ofTale", 0, 5);
    }

    @Says("of a DOUBLE one both")
    private static void aDoubleTakesBoth() {
        dueAnswers("d07", 0, 0, 0, 1);
        dueAnswers("d77", 0, 1, 1, 1);
        due(knowing(grown("r5;d0700"), 0, 1, 2, 3, 4, 5, 6), 0, "ofTale", 0, 5);
    }

    @Says("of an OLD one, as of a DOUBLE one, or if he has heard it ahead (in that night)")
    private static void anOldTakesBothOrHearing() {
        dueAnswers("o07", 0, 0, 0, 1);
        dueAnswers("o77", 0, 1, 1, 1);
        CorpseTales x = grown("r9;o0120;o3420;d0120");
        dueNight(x, order(0), 1, 0, 1, 4, 0);
        dueNight(x, order(0, 0), 0, 1, 2, 4, 0);
        dueNight(x, order(0, 0, 0), 0, 2, 3, 4, 0);
        dueNight(x, order(0, 1), 2, 0, 2, 4, 0);
        dueNight(x, order(0, 1, 1), 0, 1, 3, 4, 0);
        dueNight(x, order(2, 2), 2, 0, 2, 4, 0);
        dueNight(x, order(0), 1, 0, 1, 4, 0);
        due(x, 0, "ofTale", 0, 5);
    }

    // ---- promise 1

    @Says(promise = 1, value = "No FOREST (no TALES), SHEETS have nothing.")
    private static void aNewObject() {
        CorpseTales x = new CorpseTales();
        for (int what = 0; what < 5; what++) due(x, 0, "many", what);
        due(x, 0, "trace");
        due(x, 0, "fault");
        due(x, STATE, "know", 0, 1);
        due(x, UNKNOWN, "ofTale", 0, 0);
        for (int k = 0; k < 4; k++) {
            due(x, NULL, "put", k, 0, 0);
            due(x, 0, "lose", k);
        }
    }

    // ---- promise 2

    @Says(promise = 2, value = "A FOREST by a TEXT of n cells of a SHEET from i on, taken as a row of a LANE")
    private static void forestFromIOn() {
        for (int lane = BYTES; lane <= INTS; lane++) {
            CorpseTales x = new CorpseTales();
            row(x, 0, lane, codes("rrrrrrrrrr" + EIGHT));
            due(x, 8, "forest", 0, lane, 10, 50);
            due(x, 7, "forest", 0, lane, 10, 44);
            due(x, -101, "forest", 0, lane, 9, 50);
            due(x, -100, "forest", 0, lane, 11, 49);
            due(x, INDEX, "forest", 0, lane, 11, 50);
            due(x, 7, "many", 0);
        }
    }

    @Says(promise = 2, value = "how many TALES; -100 less the FIRST FAULT.")
    private static void forestAnswers() {
        dueText("r1;t0000", 1);
        dueText(EIGHT, 8);
        dueText("", -100);
        dueText(EIGHT + ";", -150);
    }

    @Says(promise = 2, value = "-100 less it.")
    private static void aFaultyTextChangesNothing() {
        CorpseTales x = busy();
        x.put(SHORT_ROW, 7, '4');
        refused(x, -107, "forest", SHORT_ROW, SHORTS, 0, 8);
        refused(busy(), -107, "forest", SHORT_ROW, SHORTS, 0, 7);
        refused(busy(), -100, "forest", SHORT_ROW, SHORTS, 0, 0);
        refused(bare(), -102, "forest", SHORT_ROW, SHORTS, 0, 2);
    }

    @Says(promise = 2, value = "UNKNOWN; OUTSIDE")
    private static void forestUnknown() {
        for (int k : new int[] {-1, 4, MIN, MAX}) {
            refused(busy(), UNKNOWN, "forest", k, SHORTS, 0, 8);
            refused(busy(), UNKNOWN, "forest", k, 3, -1, -1);
        }
    }

    @Says(promise = 2, value = "OUTSIDE: lane")
    private static void forestOutside() {
        for (int lane : new int[] {-1, 3, MIN, MAX}) {
            refused(busy(), OUTSIDE, "forest", SHORT_ROW, lane, 0, 8);
            refused(busy(), OUTSIDE, "forest", NOTHING, lane, -1, -1);
        }
    }

    @Says(promise = 2, value = "CAST (nothing is no CAST)")
    private static void forestCast() {
        faulted(busy(), CAST, "forest", SHORT_ROW, BYTES, 0, 8);
        faulted(busy(), CAST, "forest", SHORT_ROW, INTS, -1, -1);
        faulted(busy(), CAST, "forest", EMPTY_ROW, SHORTS, 0, 0);
        for (int lane = BYTES; lane <= INTS; lane++) faulted(busy(), NULL, "forest", NOTHING, lane, 0, 8);
    }

    @Says(promise = 2, value = "NULL; SIZE")
    private static void forestNull() {
        faulted(busy(), NULL, "forest", NOTHING, SHORTS, 0, 0);
        faulted(busy(), NULL, "forest", NOTHING, SHORTS, -1, -1);
    }

    @Says(promise = 2, value = "SIZE: n below 0; INDEX")
    private static void forestSize() {
        faulted(busy(), SIZE, "forest", SHORT_ROW, SHORTS, 0, -1);
        faulted(busy(), SIZE, "forest", SHORT_ROW, SHORTS, -1, MIN);
        faulted(busy(), SIZE, "forest", SHORT_ROW, SHORTS, 9, -1);
    }

    @Says(promise = 2, value = "INDEX; -100 less it.")
    private static void forestIndex() {
        faulted(busy(), INDEX, "forest", SHORT_ROW, SHORTS, 0, 9);
        faulted(busy(), INDEX, "forest", SHORT_ROW, SHORTS, 1, 8);
        faulted(busy(), INDEX, "forest", SHORT_ROW, SHORTS, -1, 8);
        faulted(busy(), INDEX, "forest", SHORT_ROW, SHORTS, 9, 0);
        faulted(busy(), INDEX, "forest", SHORT_ROW, SHORTS, 1, MAX);
        faulted(busy(), INDEX, "forest", SHORT_ROW, SHORTS, MAX, MAX);
        faulted(busy(), INDEX, "forest", ROW, BYTES, 0, ROW_LENGTH + 1);
    }

    // ---- promise 3

    @Says(promise = 3, value = "0 kind, 1, 2 what it NEEDS, 3 what it TEACHES, 4 how LONG it is")
    private static void ofTaleFromLeastToMost() {
        CorpseTales x = grown("r9;t0000;o7773;d1233");
        int[][] tales = {{0, 0, 0, 0, 0}, {2, 7, 7, 7, 3}, {1, 1, 2, 3, 3}};
        for (int t = 0; t < 3; t++) {
            for (int what = 0; what < 5; what++) due(x, tales[t][what], "ofTale", t, what);
        }
    }

    @Says(promise = 3, value = "5 whether he KNOWS the answer now, heard ahead of nothing (1, 0).")
    private static void ofTaleKnowsNow() {
        CorpseTales x = grown("r4;o3300");
        dueNight(x, order(0, 0), 0, 1, 2, 1, 0);
        due(x, 0, "ofTale", 0, 5);
        x.believe(3, true);
        due(x, 0, "ofTale", 0, 5);
        x.know(3, true);
        due(x, 1, "ofTale", 0, 5);
        x.know(3, false);
        due(x, 0, "ofTale", 0, 5);
    }

    @Says(promise = 3, value = "UNKNOWN; OUTSIDE.")
    private static void ofTaleRefused() {
        for (int t : new int[] {-1, 4, 8, MIN, MAX}) {
            refused(busy(), UNKNOWN, "ofTale", t, 0);
            refused(busy(), UNKNOWN, "ofTale", t, 6);
        }
        for (int what : new int[] {-1, 6, MIN, MAX}) refused(busy(), OUTSIDE, "ofTale", 3, what);
        refused(bare(), UNKNOWN, "ofTale", 0, 0);
    }

    // ---- promises 4 and 5

    /** know() or believe(), of which many() tells the set. */
    private static void dueSetOrSo(String call, int what) {
        CorpseTales x = grown(WOODS);
        for (int fact : new int[] {0, 7}) {
            due(x, 0, call, fact, 0);
            due(x, 1, call, fact, 1);
            due(x, 0, call, fact, 1);
            due(x, 1 << fact, "many", what);
            due(x, 1, call, fact, 0);
            due(x, 0, call, fact, 0);
            due(x, 0, "many", what);
        }
    }

    private static void dueSetRefused(String call) {
        for (int is = 0; is < 2; is++) {
            for (int fact : new int[] {-1, 8, MIN, MAX}) {
                refused(busy(), UNKNOWN, call, fact, is);
                refused(bare(), UNKNOWN, call, fact, is);
            }
            for (int fact = 0; fact < 8; fact++) refused(bare(), STATE, call, fact, is);
        }
    }

    @Says(promise = 4, value = "He KNOWS a FACT (true) ahead of a night, or not: 1; 0: it was so.")
    private static void knowOrSo() {
        dueSetOrSo("know", 2);
    }

    @Says(promise = 4, value = "UNKNOWN: FACT; STATE: there is no FOREST.")
    private static void knowRefused() {
        dueSetRefused("know");
    }

    @Says(promise = 5, value = "He BELIEVES a FACT (true), or not: 1; 0: it was so.")
    private static void believeOrSo() {
        dueSetOrSo("believe", 3);
    }

    @Says(promise = 5, value = "UNKNOWN: FACT; STATE: there is no FOREST.")
    private static void believeRefused() {
        dueSetRefused("believe");
    }

    public static void main(String[] args) {
        runSentences(ForestTest.class);
    }
}
