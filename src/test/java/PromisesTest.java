/** Each promise by examples that were worked out by hand: ordinary inputs, edges, wrong inputs in the told order. */
public final class PromisesTest extends Bench {
    private static void promise1NewObject() {
        CorpseTales x = new CorpseTales();
        for (int what = 0; what < 5; what++) due("1 many", x.many(what), 0);
        for (int k = 0; k < 4; k++) {
            due("1 lose", x.lose(k), 0);
            due("1 put", x.put(k, 0, 0), NULL);
        }
        due("1 ofTale", x.ofTale(0, 0), UNKNOWN);
        due("1 trace", x.trace(), 0);
        CorpseTales y = grown(WOODS);
        y.know(1, true);
        due("1 another object's tales", x.many(0), 0);
        due("1 another object's facts", x.many(2), 0);
    }

    private static void promise2ForestTexts() {
        Object[][] texts = {
            {"", -100}, {"x", -100}, {"R5", -100}, {"5", -100}, {"r", -101}, {"r0", -101}, {"r:", -101}, {"rr", -101},
            {"r5", -102}, {"r5t", -102}, {"r5:", -102}, {"r5;", -103}, {"r5;x", -103}, {"r5;;", -103}, {"r5;t", -104},
            {"r5;t8", -104}, {"r5;t/", -104}, {"r5;t08", -105}, {"r5;t018", -106}, {"r5;t011", -107}, {"r5;t0114", -107},
            {"r5;t0113", 1}, {"r1;d7777", -107}, {"r9;o7773", 1}, {"r5;t0113x", -108}, {"r5;t0113;", -109},
            {"r5;t0113;t011", -113}, {"r5;t0113;d0000;o0000", 3}, {"r5;t0113r", -108},
        };
        for (Object[] text : texts) {
            due("2 forest " + text[0], take(new CorpseTales(), (String) text[0]), (Integer) text[1]);
        }
        String eight = "r5" + ";t0123".repeat(8);
        due("2 eight tales", take(new CorpseTales(), eight), 8);
        due("2 the ; of a ninth", take(new CorpseTales(), eight + ";"), -150);
        due("2 a ninth", take(new CorpseTales(), eight + ";t0123"), -150);
        due("2 another code behind eight", take(new CorpseTales(), eight + "t"), -150);
    }

    private static void promise2ForestChanges() {
        CorpseTales x = grown(WOODS);
        x.know(3, true);
        x.believe(4, true);
        x.reading(0, NONE, 1);
        x.tell(0);
        due("2 refused text", take(x, "r5;t"), -104);
        due("2 tales as they were", x.many(0), 4);
        due("2 steps as they were", x.many(1), 4);
        due("2 known as they were", x.many(2), 8);
        due("2 believed as they were", x.many(3), 16);
        due("2 readings as they were", x.many(4), 1);
        due("2 taken text", take(x, "r7;d0112"), 1);
        due("2 tales anew", x.many(0), 1);
        due("2 steps anew", x.many(1), 7);
        due("2 known anew", x.many(2), 0);
        due("2 believed anew", x.many(3), 0);
        due("2 readings anew", x.many(4), 0);
        due("2 trace goes on", x.trace(), 1);
        due("2 sheets stay", x.cell(3, 0, 0), 'r');
        due("2 tale behind the last", x.ofTale(1, 0), UNKNOWN);
    }

    private static void promise2ForestRefusals() {
        CorpseTales x = new CorpseTales();
        row(x, 0, 1, 0, 'r', '5', ';', 't', '0', '1', '2', '0', 0);
        due("2 from i on", x.forest(0, 1, 1, 8), 1);
        due("2 fault is told from i on", x.forest(0, 1, 0, 8), -100);
        due("2 fault none", x.fault(), 0);
        due("2 sheet -1", x.forest(-1, 3, 0, -1), UNKNOWN);
        due("2 sheet 4", x.forest(4, 1, 1, 8), UNKNOWN);
        due("2 lane -1", x.forest(0, -1, 0, -1), OUTSIDE);
        due("2 lane 3", x.forest(1, 3, 0, -1), OUTSIDE);
        due("2 cast", x.forest(0, 0, -1, -1), CAST);
        due("2 cast by ints", x.forest(0, 2, 1, 8), CAST);
        due("2 fault cast", x.fault(), 2);
        for (int lane = 0; lane < 3; lane++) due("2 nothing", x.forest(1, lane, -1, -1), NULL);
        due("2 fault null", x.fault(), 1);
        due("2 size", x.forest(0, 1, -1, -1), SIZE);
        due("2 size MIN", x.forest(0, 1, MAX, MIN), SIZE);
        due("2 fault size", x.fault(), 4);
        due("2 index -1", x.forest(0, 1, -1, 0), INDEX);
        due("2 index behind", x.forest(0, 1, 11, 0), INDEX);
        due("2 index beyond", x.forest(0, 1, 1, 10), INDEX);
        due("2 index MAX", x.forest(0, 1, MAX, MAX), INDEX);
        due("2 index MIN", x.forest(0, 1, MIN, MAX), INDEX);
        due("2 fault index", x.fault(), 3);
        due("2 none at the end", x.forest(0, 1, 10, 0), -100);
        row(x, 1, 2, 'r' + 256, '5');
        due("2 an int is not cut", x.forest(1, 2, 0, 2), -100);
        row(x, 1, 0, 'r' + 256, '5');
        due("2 a byte is cut", x.forest(1, 0, 0, 2), -102);
        due("2 tales after all", x.many(0), 1);
    }

    private static void promise3OfTale() {
        CorpseTales x = grown(WOODS);
        int[][] tales = {{0, 0, 1, 2, 0, 0}, {1, 1, 2, 3, 1, 0}, {2, 3, 3, 0, 0, 0}, {0, 4, 5, 6, 3, 0}};
        for (int t = 0; t < 4; t++) {
            for (int what = 0; what < 6; what++) due("3 ofTale " + t + " " + what, x.ofTale(t, what), tales[t][what]);
        }
        x.know(1, true);
        x.believe(4, true);
        due("3 one of both", x.ofTale(0, 5), 1);
        due("3 half of a double", x.ofTale(1, 5), 0);
        due("3 a belief is no knowledge", x.ofTale(3, 5), 0);
        x.know(2, true);
        x.know(3, true);
        x.know(0, true);
        due("3 both of a double", x.ofTale(1, 5), 1);
        due("3 old", x.ofTale(2, 5), 1);
        due("3 both of a tale", x.ofTale(0, 5), 1);
        due("3 tale ahead of what", x.ofTale(4, 6), UNKNOWN);
        due("3 tale -1", x.ofTale(-1, 0), UNKNOWN);
        due("3 what 6", x.ofTale(3, 6), OUTSIDE);
        due("3 what -1", x.ofTale(0, -1), OUTSIDE);
        due("3 an old one, heard ahead of nothing", grown("r4;o3300").ofTale(0, 5), 0);
        due("3 without a forest", new CorpseTales().ofTale(0, 6), UNKNOWN);
    }

    private static void promise4Know() {
        CorpseTales x = new CorpseTales();
        due("4 fact ahead of forest", x.know(-1, true), UNKNOWN);
        due("4 fact 8 ahead of forest", x.know(8, true), UNKNOWN);
        due("4 no forest", x.know(7, true), STATE);
        due("4 no forest, false", x.know(0, false), STATE);
        take(x, WOODS);
        due("4 fact 8", x.know(8, false), UNKNOWN);
        due("4 it was so", x.know(7, false), 0);
        due("4 new", x.know(7, true), 1);
        due("4 again", x.know(7, true), 0);
        due("4 fact 0", x.know(0, true), 1);
        due("4 set", x.many(2), 129);
        due("4 forgotten", x.know(7, false), 1);
        due("4 set then", x.many(2), 1);
        due("4 beliefs", x.many(3), 0);
    }

    private static void promise5Believe() {
        CorpseTales x = new CorpseTales();
        due("5 fact ahead of forest", x.believe(MIN, true), UNKNOWN);
        due("5 fact 8 ahead of forest", x.believe(8, true), UNKNOWN);
        due("5 no forest", x.believe(7, true), STATE);
        take(x, WOODS);
        due("5 it was so", x.believe(6, false), 0);
        due("5 new", x.believe(6, true), 1);
        due("5 again", x.believe(6, true), 0);
        due("5 set", x.many(3), 64);
        due("5 knows", x.many(2), 0);
        due("5 no more", x.believe(6, false), 1);
        due("5 set then", x.many(3), 0);
    }

    private static void promise6and7Nights() {
        CorpseTales x = grown(WOODS);
        dueNight(x, order(), 0, 0, 0, 0, 0);
        dueNight(x, order(0), 1, 0, 1, 4, 0);
        dueNight(x, order(0, 1), 3, 0, 2, 12, 0);
        dueNight(x, order(0, 1, 2), 0, 1, 3, 13, 0);
        dueNight(x, order(0, 1, 2, 0), 0, 2, 4, 13, 0);
        dueNight(x, order(2, 2), 0, 1, 2, 1, 0);
        dueNight(x, order(1, 1), 4, 0, 2, 8, 1);
        dueNight(x, order(3), 4, 0, 1, 64, 1);
        dueNight(x, order(0, 3), 4, 0, 1, 4, 1);
        dueNight(x, order(0, 0, 3, 1), 4, 0, 2, 4, 1);
        dueNight(x, order(2, 2, 2, 2, 2, 2, 2, 2, 2, 2, 2, 2, 2, 2, 2, 2, 2, 2, 2, 2), 0, 19, 20, 1, 0);
        due("6 he knows ahead what he knew", x.many(2), 0);
        row(x, 2, 1, 3, 0);
        due("7 he comes", x.comes(2, 1, 0, 1), 1);
        due("7 he comes not", x.comes(2, 1, 1, 1), 0);
        due("7 he comes again", x.comes(2, 1, 0, 1), 1);
        dueNight(grown("r4;o3300"), order(0), 1, 0, 1, 1, 0);
        x.believe(4, true);
        dueNight(x, order(3), 3, 0, 1, 64, 0);
        dueNight(x, order(3, 0), 4, 0, 2, 68, 1);
        x.know(5, true);
        dueNight(x, order(3), 0, 1, 1, 96, 0);
        x.believe(1, true);
        x.know(1, true);
        dueNight(x, order(1), 1, 0, 1, 42, 0);
        dueNight(x, order(1, 1), 2, 0, 2, 42, 0);
    }

    /** night() with what, comes() and study() without are refused alike. */
    private static void dueOrder(CorpseTales x, int sheet, int lane, int i, int n, int want) {
        String name = " of sheet " + sheet + " lane " + lane + " from " + i + " n " + n;
        int fault = want <= NULL ? -10 - want : 0;
        due("6 night" + name, x.night(sheet, lane, i, n, 0), want);
        due("6 fault" + name, x.fault(), fault);
        due("7 comes" + name, x.comes(sheet, lane, i, n), want);
        due("7 fault" + name, x.fault(), fault);
        due("9 study" + name, x.study(sheet, lane, i, n), want);
        due("9 fault" + name, x.fault(), fault);
    }

    private static void promise6and7and9Refusals() {
        CorpseTales x = new CorpseTales();
        dueOrder(x, 4, 3, -1, -1, UNKNOWN);
        dueOrder(x, 0, 3, -1, -1, OUTSIDE);
        dueOrder(x, 0, 0, -1, -1, STATE);
        due("6 what ahead of state", x.night(0, 0, 0, 0, 4), OUTSIDE);
        take(x, WOODS);
        row(x, 0, 0, 2, 2, 2, 2, 2, 2, 2, 2, 2, 2, 2, 2, 2, 2, 2, 2, 2, 2, 2, 2, 4, -1);
        dueOrder(x, -1, 0, 0, 0, UNKNOWN);
        dueOrder(x, 0, -1, 0, 0, OUTSIDE);
        due("6 what -1", x.night(0, 0, 0, 0, -1), OUTSIDE);
        due("6 what 4 ahead of cast", x.night(0, 1, 0, 0, 4), OUTSIDE);
        due("6 sheet ahead of what", x.night(4, 0, 0, 0, 4), UNKNOWN);
        dueOrder(x, 0, 1, -1, -1, CAST);
        dueOrder(x, 1, 1, -1, -1, NULL);
        dueOrder(x, 0, 0, -1, -1, SIZE);
        dueOrder(x, 0, 0, -1, 0, INDEX);
        dueOrder(x, 0, 0, 23, 0, INDEX);
        dueOrder(x, 0, 0, 0, 23, INDEX);
        dueOrder(x, 0, 0, MAX, MAX, INDEX);
        dueOrder(x, 0, 0, 0, 21, OUTSIDE);
        dueOrder(x, 0, 0, 1, 20, UNKNOWN);
        dueOrder(x, 0, 0, 21, 1, UNKNOWN);
        due("6 none at the end", x.night(0, 0, 22, 0, 0), 0);
        due("6 twenty", x.night(0, 0, 0, 20, 1), 19);
        row(x, 1, 1, 3, 4);
        dueOrder(x, 1, 1, 0, 2, UNKNOWN);
        due("6 cut to its lane", x.put(0, 0, 259) + x.night(0, 0, 0, 1, 3), 65);
    }

    private static void dueNever(CorpseTales x, int n, int flights, int... row) {
        due("8 never " + n, x.never(n, -1), flights);
        for (int q = 0; q < 5; q++) due("8 never " + n + " " + q, x.never(n, q), q < row.length ? row[q] : NONE);
    }

    private static void promise8Never() {
        CorpseTales x = grown(WOODS);
        dueNever(x, 1, 0, 0);
        dueNever(x, 2, 1, 1, 2);
        dueNever(x, 3, 2, 1, 2, 0);
        dueNever(x, 4, NONE);
        dueNever(x, 5, NONE);
        x.believe(4, true);
        dueNever(x, 4, 2, 1, 2, 0, 3);
        dueNever(x, 5, NONE);
        x.know(4, true);
        dueNever(x, 1, 1, 3);
        dueNever(grown("r1;t0003"), 1, NONE);
        dueNever(grown("r9" + ";t0000".repeat(8)), 5, 4, 0, 1, 2, 3, 4);
        due("8 n 0", x.never(0, 0), OUTSIDE);
        due("8 n 6", x.never(6, 0), OUTSIDE);
        due("8 q -2", x.never(1, -2), OUTSIDE);
        due("8 q 5", x.never(5, 5), OUTSIDE);
        due("8 outside ahead of state", new CorpseTales().never(6, 0), OUTSIDE);
        due("8 no forest", new CorpseTales().never(5, 4), STATE);
    }

    private static void promise9Study() {
        CorpseTales x = grown(WOODS);
        row(x, 0, 2, 3, 2, 2, 0, 3);
        due("9 he comes as it is", x.study(0, 2, 0, 1), 0);
        due("9 none of no tale", x.study(0, 2, 0, 0), NONE);
        due("9 none", x.study(0, 2, 1, 2), NONE);
        x.know(5, true);
        due("9 forgets one", x.study(0, 2, 0, 1), 32);
        x.know(4, true);
        due("9 forgets both", x.study(0, 2, 0, 1), 48);
        due("9 by the way there", x.study(0, 2, 3, 2), 0);
        x.know(0, true);
        x.know(1, true);
        due("9 fewest, not the least", x.study(0, 2, 3, 2), 3);
        due("9 knows what he knew", x.many(2), 51);
        CorpseTales y = grown("r4;d4503");
        row(y, 0, 2, 0);
        y.know(4, true);
        y.know(5, true);
        due("9 of several the least", y.study(0, 2, 0, 1), 16);
        y.believe(5, true);
        due("9 beliefs stay", y.study(0, 2, 0, 1), NONE);
        CorpseTales z = grown("r6;t0001;t1112;t7773");
        row(z, 0, 2, 0, 1, 2);
        z.know(0, true);
        z.know(1, true);
        due("9 fewest: the later one is enough", z.study(0, 2, 0, 3), 2);
        z.know(7, true);
        due("9 he comes while the last is told", z.study(0, 2, 0, 3), 2);
        CorpseTales all = grown("r8;t0101;t2321;t4541;t6761");
        row(all, 0, 2, 0, 1, 2, 3);
        for (int fact = 0; fact < 7; fact++) all.know(fact, true);
        due("9 forgets seven", all.study(0, 2, 0, 4), 127);
        all.know(7, true);
        due("9 forgets all", all.study(0, 2, 0, 4), 255);
    }

    private static void promise10Game() {
        CorpseTales x = grown(WOODS);
        int[] far = {1, 2, 4, 4};
        for (int n = 1; n <= 4; n++) due("10 game " + n, x.game(n), far[n - 1]);
        due("10 n 0", x.game(0), OUTSIDE);
        due("10 n 5", x.game(5), OUTSIDE);
        x.believe(3, true);
        due("10 believes", x.game(1), 0);
        due("10 believes, then", x.game(2), 1);
        x.know(0, true);
        due("10 knows", x.game(3), 0);
        due("10 the long one must be told", x.game(4), 4);
        due("10 knows ahead what he knew", x.many(2), 1);
        CorpseTales y = grown("r9;t0112;d2331");
        due("10 all are told", y.game(4), 5);
        due("10 he would not harken", grown("r4;d1231;o3300").game(2), 3);
        CorpseTales z = grown("r4;t7770;t6660;t0000");
        z.believe(6, true);
        z.know(0, true);
        due("10 the least is found behind others", z.game(2), 0);
        due("10 outside ahead of state", new CorpseTales().game(5), OUTSIDE);
        due("10 no forest", new CorpseTales().game(4), STATE);
    }

    private static void promise11Porter() {
        CorpseTales x = grown(WOODS);
        long[][] odds = {
            {0, 0, 1, 1}, {3, 0, 25, 64}, {2, 0, 9, 16}, {6, 0, 1, 16}, {8, 0, 0, 1}, {3, 1, 55, 64}, {2, 1, 15, 16},
            {6, 1, 7, 16}, {8, 1, 0, 1}, {3, 2, 5, 8}, {2, 2, 3, 4}, {4, 2, 1, 2}, {0, 2, 1, 1}, {8, 2, 0, 1},
        };
        for (long[] o : odds) {
            due("11 upper " + o[0] + " " + o[1], x.porter((int) o[0], (int) o[1], 0), o[2]);
            due("11 lower " + o[0] + " " + o[1], x.porter((int) o[0], (int) o[1], 1), o[3]);
        }
        x.know(0, true);
        x.believe(1, true);
        due("11 not what the king knows", x.porter(3, 0, 0), 25);
        due("11 old with two facts", grown("r1;o0170").porter(3, 0, 0), 55);
        due("11 tale with one fact", grown("r1;t1170").porter(3, 0, 1), 8);
        due("11 tale -1", x.porter(0, -1, 0), LOST);
        due("11 tale 4", x.porter(0, 4, 0), LOST);
        due("11 w -1", x.porter(-1, 0, 0), LOST);
        due("11 w 9", x.porter(9, 0, 0), LOST);
        due("11 which -1", x.porter(0, 0, -1), LOST);
        due("11 which 2", x.porter(0, 0, 2), LOST);
        due("11 no forest", new CorpseTales().porter(0, 0, 0), LOST);
    }

    private static void promise12and13Readings() {
        CorpseTales x = new CorpseTales();
        due("12 no forest", x.reading(0, NONE, 0), UNKNOWN);
        due("13 none to take back", x.back(0), 0);
        due("13 more than none", x.back(1), OUTSIDE);
        take(x, WOODS);
        due("12 t ahead of far", x.reading(4, NONE, 10), UNKNOWN);
        due("12 t NONE", x.reading(NONE, NONE, 0), UNKNOWN);
        due("12 other ahead of far", x.reading(0, 4, -1), UNKNOWN);
        due("12 other -1", x.reading(0, -1, 0), UNKNOWN);
        due("12 far -1", x.reading(0, NONE, -1), OUTSIDE);
        due("12 far 10", x.reading(0, NONE, 10), OUTSIDE);
        for (int k = 0; k < 8; k++) due("12 number", x.reading(3, k % 2 == 0 ? NONE : 3, k % 2 == 0 ? 9 : 0), k);
        due("12 full", x.reading(0, NONE, 0), FULL);
        due("12 outside ahead of full", x.reading(0, NONE, 10), OUTSIDE);
        due("12 unknown ahead of full", x.reading(0, 8, 0), UNKNOWN);
        due("13 back 9", x.back(9), OUTSIDE);
        due("13 back -1", x.back(-1), OUTSIDE);
        due("13 back MIN", x.back(MIN), OUTSIDE);
        due("13 back 0", x.back(0), 8);
        due("13 back 3", x.back(3), 5);
        due("13 back 6", x.back(6), OUTSIDE);
        due("12 number behind it", x.reading(0, NONE, 0), 5);
        due("13 all", x.back(6), 0);
        due("13 many", x.many(4), 0);
    }

    private static void dueFits(CorpseTales x, String when, int many, int least, int strange) {
        due("14 many " + when, x.fits(0), many);
        due("14 least " + when, x.fits(1), least);
        due("14 strange " + when, x.fits(2), strange);
    }

    private static void promise14Fits() {
        CorpseTales x = grown(WOODS);
        dueFits(x, "without readings", 256, 0, 0);
        x.know(0, true);
        x.reading(0, NONE, 1);
        dueFits(x, "by one, whatever he knows now", 64, 0, 3);
        x.reading(1, 2, 0);
        dueFits(x, "by two that flew at the second", 64, 0, 3);
        x.reading(2, NONE, 0);
        dueFits(x, "by an old one", 32, 8, 3);
        x.reading(3, NONE, 3);
        dueFits(x, "by none", 0, NONE, 255);
        x.believe(4, true);
        dueFits(x, "as he believes", 8, 8, 51);
        x.back(4);
        x.believe(4, false);
        x.reading(3, 0, 4);
        dueFits(x, "come by the first", 64, 0, 48);
        x.reading(0, NONE, 9);
        dueFits(x, "farther than the circle", 0, NONE, 255);
        x.back(2);
        x.reading(2, 2, 0);
        dueFits(x, "by an old one, heard ahead", 256, 0, 0);
        due("14 what -1", x.fits(-1), OUTSIDE);
        due("14 what 3", x.fits(3), OUTSIDE);
        due("14 outside ahead of state", new CorpseTales().fits(3), OUTSIDE);
        due("14 no forest", new CorpseTales().fits(2), STATE);
    }

    private static void promise15and16Sheets() {
        CorpseTales x = new CorpseTales();
        due("15 unknown ahead of lane", x.sheet(4, 3, 61), UNKNOWN);
        due("15 unknown -1", x.sheet(-1, 0, 1), UNKNOWN);
        due("15 lane 3", x.sheet(0, 3, -1), OUTSIDE);
        due("15 lane -1", x.sheet(0, -1, 1), OUTSIDE);
        due("15 n 61", x.sheet(0, 0, 61), OUTSIDE);
        due("15 size", x.sheet(0, 0, -1), SIZE);
        due("15 fault", x.fault(), 4);
        due("15 size MIN", x.sheet(0, 0, MIN), SIZE);
        due("15 nothing yet", x.lose(0), 0);
        due("15 sixty", x.sheet(0, 2, 60), 1);
        due("15 fault none", x.fault(), 0);
        due("15 last", x.put(0, 59, 7), 1);
        due("15 behind", x.put(0, 60, 7), INDEX);
        due("15 refused keeps the row", x.sheet(0, 2, -1), SIZE);
        due("15 kept", x.cell(0, 59, 2), 7);
        due("15 anew", x.sheet(0, 2, 60), 1);
        due("15 zero at first", x.cell(0, 59, 2), 0);
        due("15 a row of none", x.sheet(1, 1, 0), 1);
        due("15 none in it", x.put(1, 0, 1), INDEX);
        due("16 a row of none is not nothing", x.lose(1), 1);
        due("16 lost", x.put(1, 0, 1), NULL);
        due("16 again", x.lose(1), 0);
        due("16 unknown 4", x.lose(4), UNKNOWN);
        due("16 unknown -1", x.lose(-1), UNKNOWN);
        due("16 others stay", x.cell(0, 0, 2), 0);
    }

    private static void promise17and18Cells() {
        CorpseTales x = new CorpseTales();
        int[] put = {0, 127, 128, 255, 256, -129, 32768, 65536 + 5, MAX, MIN};
        long[] bytes = {0, 127, -128, -1, 0, 127, 0, 5, -1, 0};
        long[] shorts = {0, 127, 128, 255, 256, -129, -32768, 5, -1, 0};
        row(x, 0, 0, put);
        row(x, 1, 1, put);
        row(x, 2, 2, put);
        for (int i = 0; i < put.length; i++) {
            due("18 byte of " + put[i], x.cell(0, i, 0), bytes[i]);
            due("18 short of " + put[i], x.cell(1, i, 1), shorts[i]);
            due("18 int of " + put[i], x.cell(2, i, 2), put[i]);
        }
        due("17 put", x.put(0, 9, 1), 1);
        due("17 unknown", x.put(4, -1, 1), UNKNOWN);
        due("17 fault of a refusal", x.fault(), 0);
        due("17 null", x.put(3, -1, 1), NULL);
        due("17 fault null", x.fault(), 1);
        for (int i : new int[] {-1, 10, MIN, MAX}) due("17 index", x.put(0, i, 1), INDEX);
        due("17 fault index", x.fault(), 3);
        long[][] lost = {
            {4, 0, 3, 0}, {-1, 0, 0, 0}, {0, 0, 3, 0}, {0, 0, -1, 0}, {0, -1, 1, 2}, {0, 0, 2, 2}, {3, -1, 0, 1},
            {3, 0, 1, 1}, {3, 0, 2, 1}, {0, -1, 0, 3}, {0, 10, 0, 3}, {2, MAX, 2, 3}, {2, MIN, 2, 3},
        };
        for (long[] l : lost) {
            due("18 cell " + java.util.Arrays.toString(l), x.cell((int) l[0], (int) l[1], (int) l[2]), LOST);
            due("18 fault " + java.util.Arrays.toString(l), x.fault(), l[3]);
        }
        due("18 cell", x.cell(0, 9, 0), 1);
        due("18 fault none", x.fault(), 0);
    }

    private static void promise19Copy() {
        CorpseTales x = new CorpseTales();
        row(x, 0, 0, 1, 2, 3, 4, 5);
        row(x, 1, 0, 9, 9, 9);
        row(x, 2, 2, 7);
        due("19 unknown", x.copy(4, 0, 3, 0, 0), UNKNOWN);
        due("19 unknown other", x.copy(3, 0, 4, 0, 0), UNKNOWN);
        due("19 null", x.copy(3, -1, 2, 0, 0), NULL);
        due("19 null other ahead of index", x.copy(0, -1, 3, 0, -1), NULL);
        due("19 fault null", x.fault(), 1);
        due("19 cast ahead of index", x.copy(0, -1, 2, -1, -1), CAST);
        due("19 cast of none", x.copy(0, 0, 2, 0, 0), CAST);
        int[][] beyond = {{-1, 0, 0}, {6, 0, 0}, {0, -1, 0}, {0, 4, 0}, {0, 0, -1}, {0, 0, 4}, {3, 0, 3}, {MAX, 0, MAX}, {0, MAX, MAX}, {0, 0, MIN}};
        for (int[] b : beyond) {
            due("19 index " + java.util.Arrays.toString(b), x.copy(0, b[0], 1, b[1], b[2]), INDEX);
            due("19 fault", x.fault(), 3);
        }
        due("19 nothing came", x.cell(1, 0, 0), 9);
        due("19 none at the ends", x.copy(0, 5, 1, 3, 0), 0);
        due("19 two", x.copy(0, 3, 1, 1, 2), 2);
        due("19 fault none", x.fault(), 0);
        int[] then = {9, 4, 5};
        for (int i = 0; i < 3; i++) due("19 came", x.cell(1, i, 0), then[i]);
        due("19 to the right in itself", x.copy(0, 0, 0, 1, 4), 4);
        int[] right = {1, 1, 2, 3, 4};
        for (int i = 0; i < 5; i++) due("19 as they were", x.cell(0, i, 0), right[i]);
        due("19 to the left in itself", x.copy(0, 1, 0, 0, 4), 4);
        int[] left = {1, 2, 3, 4, 4};
        for (int i = 0; i < 5; i++) due("19 as they were", x.cell(0, i, 0), left[i]);
    }

    private static void promise20and21and23Bodies() {
        CorpseTales x = grown("r4;t0120;d1231;o3350;t4563");
        due("20 tale", x.tell(0), 2);
        due("23 trace", x.trace(), 1);
        due("20 double", x.tell(1), 103);
        due("23 trace", x.trace(), (31 + 2) * 31 + 1);
        int trace = x.trace();
        due("20 old", x.tell(2), 110);
        for (int body : new int[] {3, 2, 1, 1}) trace = 31 * trace + body;
        due("23 trace", x.trace(), trace);
        due("21 tale", x.whisper(3), 3);
        due("23 trace", x.trace(), trace = 31 * trace + 4);
        due("21 double", x.whisper(1), 1);
        due("23 trace", x.trace(), trace = 31 * trace + 4);
        due("21 old", x.whisper(2), 50);
        due("23 trace", x.trace(), trace = 31 * trace + 5);
        due("20 unknown", x.tell(4), UNKNOWN);
        due("20 unknown", x.tell(-1), UNKNOWN);
        due("21 unknown", x.whisper(4), UNKNOWN);
        due("21 unknown", x.whisper(-1), UNKNOWN);
        due("23 trace of refusals", x.trace(), trace);
        due("20 no forest", new CorpseTales().tell(0), UNKNOWN);
        due("21 no forest", new CorpseTales().whisper(0), UNKNOWN);
    }

    private static void promise22As() {
        CorpseTales x = grown(WOODS);
        int[][] kinds = {{1, CAST, CAST}, {1, 1, CAST}, {1, 1, 1}, {1, CAST, CAST}};
        for (int t = 0; t < 4; t++) {
            for (int kind = 0; kind < 3; kind++) {
                due("22 as " + t + " " + kind, x.as(t, kind), kinds[t][kind]);
                due("22 fault", x.fault(), kinds[t][kind] == CAST ? 2 : 0);
            }
        }
        due("22 unknown ahead of kind", x.as(4, 3), UNKNOWN);
        due("22 unknown", x.as(-1, 0), UNKNOWN);
        due("22 kind 3", x.as(0, 3), OUTSIDE);
        due("22 kind -1", x.as(0, -1), OUTSIDE);
        due("22 no forest", new CorpseTales().as(0, 0), UNKNOWN);
    }

    /** Only calls that name FAULTS change what fault() tells. */
    private static void promise24Fault() {
        CorpseTales x = new CorpseTales();
        due("24 ahead of any", x.fault(), 0);
        take(x, WOODS);
        due("24 null", x.put(0, 0, 0), NULL);
        x.ofTale(9, 9);
        x.know(0, true);
        x.believe(9, true);
        x.never(1, 0);
        x.game(9);
        x.porter(0, 9, 0);
        x.reading(0, NONE, 1);
        x.back(1);
        x.fits(0);
        x.lose(2);
        x.lose(9);
        x.tell(0);
        x.whisper(9);
        x.trace();
        x.many(9);
        x.fault();
        due("24 it stays", x.fault(), 1);
        String[] names = {"forest", "forest's text", "night", "comes", "study", "sheet", "put", "cell", "copy", "as", "as refused"};
        for (int call = 0; call < names.length; call++) {
            due("24 size", x.sheet(0, 0, -1), SIZE);
            faultless(x, call);
            due("24 behind " + names[call], x.fault(), 0);
        }
    }

    private static void faultless(CorpseTales x, int call) {
        switch (call) {
            case 0: x.forest(9, 0, 0, 0); break;
            case 1: x.forest(3, 0, 0, 1); break;
            case 2: x.night(3, 0, 0, 0, 0); break;
            case 3: x.comes(3, 0, 0, 1); break;
            case 4: x.study(3, 9, 0, 0); break;
            case 5: x.sheet(1, 0, 1); break;
            case 6: x.put(1, 0, 1); break;
            case 7: x.cell(1, 0, 9); break;
            case 8: x.copy(1, 0, 1, 0, 1); break;
            case 9: x.as(0, 0); break;
            default: x.as(9, 0); break;
        }
    }

    private static void promise25Many() {
        CorpseTales x = grown(WOODS);
        x.know(2, true);
        x.know(7, true);
        x.believe(0, true);
        x.reading(0, NONE, 1);
        int[] many = {4, 4, 132, 1, 1};
        for (int what = 0; what < 5; what++) due("25 many " + what, x.many(what), many[what]);
        due("25 many -1", x.many(-1), OUTSIDE);
        due("25 many 5", x.many(5), OUTSIDE);
        due("25 nine steps", grown("r9;t0000").many(1), 9);
    }

    public static void main(String[] args) {
        promise1NewObject();
        promise2ForestTexts();
        promise2ForestChanges();
        promise2ForestRefusals();
        promise3OfTale();
        promise4Know();
        promise5Believe();
        promise6and7Nights();
        promise6and7and9Refusals();
        promise8Never();
        promise9Study();
        promise10Game();
        promise11Porter();
        promise12and13Readings();
        promise14Fits();
        promise15and16Sheets();
        promise17and18Cells();
        promise19Copy();
        promise20and21and23Bodies();
        promise22As();
        promise24Fault();
        promise25Many();
        end();
    }
}
