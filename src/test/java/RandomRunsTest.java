import java.util.Random;

/** Runs of at most 512 calls drawn by fixed seeds: each answer against that of the reference. */
public final class RandomRunsTest {
    private static final int RUNS = 400, CALLS = 512;
    private static final int[] EXTREMES = {
        Integer.MIN_VALUE, Integer.MIN_VALUE + 1, -100, -10, -9, -2, -1, 8, 9, 10, 20, 21, 60, 61, 127, 128, 255, 256,
        32767, 32768, 65536, Integer.MAX_VALUE - 1, Integer.MAX_VALUE
    };

    private static int wrong = 0;

    private final int run;
    private final Random random;
    private final CorpseTales x = new CorpseTales();
    private final Reference r = new Reference();
    private int calls = 0;

    private RandomRunsTest(int run) {
        this.run = run;
        this.random = new Random(run);
    }

    private void due(String name, long got, long want, int... with) {
        calls++;
        if (got == want) return;
        wrong++;
        if (wrong > 50) return;
        System.out.println("run " + run + ", call " + calls + ": " + name + java.util.Arrays.toString(with)
            + " answered " + got + ", due is " + want);
    }

    /** Mostly 0 .. most, at times beyond. */
    private int some(int most) {
        return random.nextInt(12) == 0 ? EXTREMES[random.nextInt(EXTREMES.length)] : random.nextInt(most + 2) - random.nextInt(16) / 15;
    }

    private int someTale() {
        return random.nextInt(10) == 0 ? some(8) : random.nextInt(Math.max(1, (int) r.many(0)));
    }

    private String someText() {
        int shape = random.nextInt(4);
        StringBuilder text = new StringBuilder("r").append(1 + random.nextInt(9));
        int tales = shape == 0 ? 1 + random.nextInt(2) : 1 + random.nextInt(8);
        int facts = shape == 1 ? 3 : 8;
        for (int t = 0; t < tales; t++) {
            text.append(';').append("tdo".charAt(random.nextInt(3)));
            for (int d = 0; d < 3; d++) text.append(random.nextInt(facts));
            text.append(random.nextInt(3) == 0 ? random.nextInt(4) : random.nextInt(2));
        }
        int flaw = random.nextInt(12);
        int at = random.nextInt(text.length());
        if (flaw == 0) text.setCharAt(at, "r;tdo0123456789/:x".charAt(random.nextInt(18)));
        if (flaw == 1) text.setLength(at);
        if (flaw == 2 && text.length() < 55) text.append(";t0000".substring(0, 1 + random.nextInt(6)));
        return text.toString();
    }

    private void writeForest() {
        String text = someText();
        int k = random.nextInt(4);
        int lane = random.nextInt(3);
        int from = random.nextInt(3);
        int spare = random.nextInt(3);
        int length = Math.min(60, from + text.length() + spare);
        sheet(k, lane, length);
        for (int c = 0; c < text.length(); c++) put(k, from + c, text.charAt(c));
        forest(k, lane, from, text.length());
        if (random.nextInt(4) == 0) forest(k, lane, from, text.length() + 1);
    }

    private void writeOrder() {
        int k = random.nextInt(4);
        int lane = random.nextInt(3);
        int length = random.nextInt(26);
        int tales = (int) r.many(0);
        sheet(k, lane, length);
        for (int i = 0; i < length; i++) put(k, i, random.nextInt(40) == 0 ? some(8) : random.nextInt(Math.max(1, tales)));
        for (int c = 0; c < 6; c++) orderCall(k, lane, random.nextInt(length + 1), length);
    }

    private void orderCall(int k, int lane, int i, int length) {
        int n = random.nextInt(8) == 0 ? some(21) : random.nextInt(Math.max(1, length - i + 1));
        int what = some(3);
        switch (random.nextInt(4)) {
            case 0: due("night", x.night(k, lane, i, n, what), r.night(k, lane, i, n, what), k, lane, i, n, what); break;
            case 1: due("comes", x.comes(k, lane, i, n), r.comes(k, lane, i, n), k, lane, i, n); break;
            default: due("study", x.study(k, lane, i, n), r.study(k, lane, i, n), k, lane, i, n); break;
        }
    }

    private void sheet(int k, int lane, int n) {
        due("sheet", x.sheet(k, lane, n), r.sheet(k, lane, n), k, lane, n);
    }

    private void put(int k, int i, int v) {
        due("put", x.put(k, i, v), r.put(k, i, v), k, i, v);
    }

    private void forest(int k, int lane, int i, int n) {
        due("forest", x.forest(k, lane, i, n), r.forest(k, lane, i, n), k, lane, i, n);
    }

    private void anyCall() {
        int a = someTale();
        int b = someTale();
        int fact = some(7);
        int k = some(3);
        int lane = some(2);
        int i = some(22);
        int j = some(22);
        int n = some(22);
        int what = some(6);
        boolean is = random.nextInt(3) != 0;
        switch (random.nextInt(32)) {
            case 0: if (random.nextInt(3) == 0) writeForest(); break;
            case 1: case 2: writeOrder(); break;
            case 3: knowSome(); break;
            case 4: seeSome(); break;
            case 5: due("ofTale", x.ofTale(a, what), r.ofTale(a, what), a, what); break;
            case 6: case 7: due("know", x.know(fact, is), r.know(fact, is), fact); break;
            case 8: case 9: due("believe", x.believe(fact, is), r.believe(fact, is), fact); break;
            case 10: due("night", x.night(k, lane, i, n, what), r.night(k, lane, i, n, what), k, lane, i, n, what); break;
            case 11: due("comes", x.comes(k, lane, i, n), r.comes(k, lane, i, n), k, lane, i, n); break;
            case 12: due("study", x.study(k, lane, i, n), r.study(k, lane, i, n), k, lane, i, n); break;
            case 13: search(); break;
            case 14: case 15: {
                int w = some(8);
                due("porter", x.porter(w, a, lane), r.porter(w, a, lane), w, a, lane);
                break;
            }
            case 16: case 17: case 18: {
                int far = some(5);
                int other = random.nextInt(2) == 0 ? -9 : b;
                due("reading", x.reading(a, other, far), r.reading(a, other, far), a, other, far);
                break;
            }
            case 19: due("back", x.back(lane), r.back(lane), lane); break;
            case 20: case 21: due("fits", x.fits(lane), r.fits(lane), lane); break;
            case 22: sheet(k, lane, some(60)); break;
            case 23: due("lose", x.lose(k), r.lose(k), k); break;
            case 24: put(k, i, some(300)); break;
            case 25: due("cell", x.cell(k, i, lane), r.cell(k, i, lane), k, i, lane); break;
            case 26: {
                int other = some(3);
                i = some(8);
                j = some(8);
                n = some(6);
                due("copy", x.copy(k, i, other, j, n), r.copy(k, i, other, j, n), k, i, other, j, n);
                break;
            }
            case 27: due("tell", x.tell(a), r.tell(a), a); break;
            case 28: due("whisper", x.whisper(a), r.whisper(a), a); break;
            case 29: due("as", x.as(a, lane), r.as(a, lane), a, lane); break;
            case 30: forest(k, lane, i, n); break;
            default: due("many", x.many(what), r.many(what), what); break;
        }
    }

    /** The reference's searches leave nothing out, so the long ones are asked for seldom. */
    private void search() {
        boolean small = r.many(0) < 6 || random.nextInt(12) == 0;
        int n = random.nextInt(8) == 0 ? some(6) : small ? 1 + random.nextInt(5) : 1 + random.nextInt(3);
        for (int q = -1; q < 5; q += 1 + random.nextInt(2)) due("never", x.never(n, q), r.never(n, q), n, q);
        due("game", x.game(n), r.game(n), n);
        due("never", x.never(1, n), r.never(1, n), 1, n);
    }

    private void knowSome() {
        int set = random.nextInt(256);
        for (int fact = 0; fact < 8; fact++) {
            boolean is = (set >> fact & 1) != 0;
            due("know", x.know(fact, is), r.know(fact, is), fact);
        }
    }

    /** READINGS that mostly go together: the forest's shortest ways. */
    private void seeSome() {
        due("back", x.back((int) r.many(4)), r.back((int) r.many(4)));
        int n = random.nextInt(10);
        for (int k = 0; k < n; k++) {
            int t = someTale();
            int other = random.nextInt(2) == 0 ? -9 : someTale();
            int far = random.nextInt(5) / 2;
            due("reading", x.reading(t, other, far), r.reading(t, other, far), t, other, far);
            int what = random.nextInt(3);
            due("fits", x.fits(what), r.fits(what), what);
        }
    }

    private void afterEach() {
        int k = random.nextInt(4);
        int i = random.nextInt(30);
        int lane = random.nextInt(3);
        int what = random.nextInt(5);
        switch (random.nextInt(4)) {
            case 0: due("fault", x.fault(), r.fault()); break;
            case 1: due("trace", x.trace(), r.trace()); break;
            case 2: due("many", x.many(what), r.many(what), what); break;
            default: due("cell", x.cell(k, i, lane), r.cell(k, i, lane), k, i, lane); break;
        }
    }

    private void goThrough() {
        if (run % 4 != 0) writeForest();
        while (calls < CALLS - 70) {
            anyCall();
            afterEach();
        }
    }

    public static void main(String[] args) {
        for (int run = 1; run <= RUNS; run++) new RandomRunsTest(run).goThrough();
        System.out.println(wrong == 0 ? RUNS + " runs are as the reference's" : wrong + " answers are not as due");
        if (wrong != 0) System.exit(1);
    }
}
