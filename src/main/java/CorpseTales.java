import java.util.Arrays;

/**
 * A king bears a corpse from a tree to a circle; it tells tales with questions, and whoever
 * answers must carry it back. The document's words stand in capitals in the comments.
 *
 * Sets (of FACTS, of TALES) are ints whose bit k stands for number k.
 */
public final class CorpseTales {
    public static final int UNKNOWN = -1, OUTSIDE = -2, STATE = -3, FULL = -4, NONE = -9;
    public static final long LOST = Long.MIN_VALUE;

    private static final int NO_FAULT = 0, NULL_FAULT = 1, CAST_FAULT = 2, INDEX_FAULT = 3, SIZE_FAULT = 4;
    private static final int FACTS = 8, SETS_OF_FACTS = 256;
    private static final int KIND_TALE = 0, KIND_DOUBLE = 1, KIND_OLD = 2;
    private static final int BYTES = 0, SHORTS = 1, INTS = 2;
    private static final int SHEETS = 4, MOST_CELLS = 60;
    private static final int MOST_TALES = 8, MOST_READINGS = 8, FARTHEST = 9;
    private static final int LONGEST_ORDER = 20, LONGEST_NEVER = 5, LONGEST_GAME = 4;
    private static final int MOST_WITS = 8, WHOLE_ODDS = 64;

    private final Forest forest = new Forest();
    private int known = 0;
    private int believed = 0;
    private final Readings readings = new Readings();
    private final Sheet[] sheets = new Sheet[SHEETS];
    private final Trace traced = new Trace();
    private int latestFault = NO_FAULT;
    private final int[] order = new int[LONGEST_ORDER];
    private int orderLength = 0;
    private final Night oneNight = new Night();
    private final Never nevers = new Never();
    private final Game games = new Game();

    public CorpseTales() {
        for (int k = 0; k < SHEETS; k++) {
            sheets[k] = new Sheet();
        }
    }

    // ---- 1 the forest

    public int forest(int sheet, int lane, int i, int n) {
        latestFault = NO_FAULT;
        Sheet text = sheetAt(sheet);
        if (text == null) return UNKNOWN;
        if (!isWithin(lane, BYTES, INTS)) return OUTSIDE;
        int hindrance = text.faultOfCells(lane, i, n);
        if (hindrance != NO_FAULT) return failing(hindrance);
        int place = Forest.firstFault(text, i, n);
        if (place != NONE) return -100 - place;
        forest.grow(text, i, n);
        known = 0;
        believed = 0;
        readings.count = 0;
        return forest.count;
    }

    public int ofTale(int t, int what) {
        Tale tale = forest.taleAt(t);
        if (tale == null) return UNKNOWN;
        switch (what) {
            case 0: return tale.kind();
            case 1: return tale.firstNeed;
            case 2: return tale.secondNeed;
            case 3: return tale.teaches;
            case 4: return tale.length;
            case 5: return tale.isAnswered(known, 0) ? 1 : 0;
            default: return OUTSIDE;
        }
    }

    public int know(int fact, boolean is) {
        if (!isWithin(fact, 0, FACTS - 1)) return UNKNOWN;
        if (forest.count == 0) return STATE;
        if (has(known, fact) == is) return 0;
        known = known ^ (1 << fact);
        return 1;
    }

    public int believe(int fact, boolean is) {
        if (!isWithin(fact, 0, FACTS - 1)) return UNKNOWN;
        if (forest.count == 0) return STATE;
        if (has(believed, fact) == is) return 0;
        believed = believed ^ (1 << fact);
        return 1;
    }

    // ---- 2 nights

    public int night(int sheet, int lane, int i, int n, int what) {
        int refusal = takeOrder(sheet, lane, i, n, what);
        if (refusal != 0) return refusal;
        passNight(known);
        switch (what) {
            case 0: return oneNight.step;
            case 1: return oneNight.flights;
            case 2: return oneNight.heardOut;
            default: return oneNight.known;
        }
    }

    public int comes(int sheet, int lane, int i, int n) {
        int refusal = takeOrder(sheet, lane, i, n, 0);
        if (refusal != 0) return refusal;
        passNight(known);
        return oneNight.hasCome ? 1 : 0;
    }

    /** Reads an ORDER into the row for it: 0, or what the call has to answer instead. */
    private int takeOrder(int sheet, int lane, int i, int n, int what) {
        latestFault = NO_FAULT;
        Sheet row = sheetAt(sheet);
        if (row == null) return UNKNOWN;
        if (!isWithin(lane, BYTES, INTS) || !isWithin(what, 0, 3)) return OUTSIDE;
        if (forest.count == 0) return STATE;
        int hindrance = row.faultOfCells(lane, i, n);
        if (hindrance != NO_FAULT) return failing(hindrance);
        if (n > LONGEST_ORDER) return OUTSIDE;
        for (int q = 0; q < n && q < LONGEST_ORDER; q++) {
            order[q] = row.read(i + q);
            if (forest.taleAt(order[q]) == null) return UNKNOWN;
        }
        orderLength = n;
        return 0;
    }

    private void passNight(int knownAhead) {
        oneNight.begin(forest.steps, knownAhead, believed);
        for (int q = 0; q < orderLength && q < LONGEST_ORDER; q++) {
            oneNight.hear(forest.taleAt(order[q]), true);
        }
    }

    // ---- 3 orders, studies

    public int never(int n, int q) {
        if (!isWithin(n, 1, LONGEST_NEVER) || !isWithin(q, -1, LONGEST_NEVER - 1)) return OUTSIDE;
        if (forest.count == 0) return STATE;
        oneNight.begin(forest.steps, known, believed);
        nevers.seek(forest, oneNight, n);
        if (nevers.mostFlights == NONE || q >= n) return NONE;
        return q < 0 ? nevers.mostFlights : nevers.bestRow[q];
    }

    public int study(int sheet, int lane, int i, int n) {
        int refusal = takeOrder(sheet, lane, i, n, 0);
        if (refusal != 0) return refusal;
        int best = NONE;
        int fewest = FACTS + 1;
        for (int otherwise = 0; otherwise < SETS_OF_FACTS; otherwise++) {
            int size = Integer.bitCount(otherwise);
            if (size >= fewest) continue;
            passNight(known ^ otherwise);
            if (oneNight.hasCome) {
                best = otherwise;
                fewest = size;
            }
        }
        return best;
    }

    public int game(int n) {
        if (!isWithin(n, 1, LONGEST_GAME)) return OUTSIDE;
        if (forest.count == 0) return STATE;
        oneNight.begin(forest.steps, known, believed);
        return games.farByBestPlay(forest, oneNight, n);
    }

    // ---- 4 porters, what was seen

    public long porter(int w, int t, int which) {
        Tale tale = forest.taleAt(t);
        if (tale == null || !isWithin(w, 0, MOST_WITS) || !isWithin(which, 0, 1)) return LOST;
        int upper = tale.oddsUnanswered(w);
        int lower = WHOLE_ODDS;
        // The lower number is a power of two, so that halving both is all that shortens a share.
        while (lower > 1 && upper % 2 == 0) {
            upper = upper / 2;
            lower = lower / 2;
        }
        return which == 0 ? upper : lower;
    }

    public int reading(int t, int other, int far) {
        if (forest.taleAt(t) == null) return UNKNOWN;
        if (other != NONE && forest.taleAt(other) == null) return UNKNOWN;
        if (!isWithin(far, 0, FARTHEST)) return OUTSIDE;
        return readings.add(t, other, far);
    }

    public int back(int k) {
        if (!isWithin(k, 0, readings.count)) return OUTSIDE;
        readings.count = readings.count - k;
        return readings.count;
    }

    public int fits(int what) {
        if (!isWithin(what, 0, 2)) return OUTSIDE;
        if (forest.count == 0) return STATE;
        int many = 0;
        int least = NONE;
        int inSome = 0;
        for (int set = 0; set < SETS_OF_FACTS; set++) {
            if (!fitsReadings(set)) continue;
            if (many == 0) least = set;
            many++;
            inSome = inSome | set;
        }
        if (what == 0) return many;
        return what == 1 ? least : SETS_OF_FACTS - 1 - inSome;
    }

    private boolean fitsReadings(int knownAtFirst) {
        for (int k = 0; k < readings.count && k < MOST_READINGS; k++) {
            oneNight.begin(forest.steps, knownAtFirst, believed);
            oneNight.hear(forest.taleAt(readings.first[k]), true);
            oneNight.hear(forest.taleAt(readings.second[k]), true);
            if (oneNight.step != readings.far[k]) return false;
        }
        return true;
    }

    // ---- 5 sheets, parts

    public int sheet(int k, int lane, int n) {
        latestFault = NO_FAULT;
        Sheet renewed = sheetAt(k);
        if (renewed == null) return UNKNOWN;
        if (!isWithin(lane, BYTES, INTS) || n > MOST_CELLS) return OUTSIDE;
        if (n < 0) return failing(SIZE_FAULT);
        renewed.renew(lane, n);
        return 1;
    }

    public int lose(int k) {
        Sheet lost = sheetAt(k);
        if (lost == null) return UNKNOWN;
        if (lost.isNothing()) return 0;
        lost.clear();
        return 1;
    }

    public int put(int k, int i, int v) {
        latestFault = NO_FAULT;
        Sheet row = sheetAt(k);
        if (row == null) return UNKNOWN;
        if (row.isNothing()) return failing(NULL_FAULT);
        if (!row.hasCell(i)) return failing(INDEX_FAULT);
        row.write(i, v);
        return 1;
    }

    public long cell(int k, int i, int lane) {
        latestFault = NO_FAULT;
        Sheet row = sheetAt(k);
        if (row == null || !isWithin(lane, BYTES, INTS)) return LOST;
        latestFault = row.faultOfLane(lane);
        if (latestFault != NO_FAULT) return LOST;
        if (!row.hasCell(i)) {
            latestFault = INDEX_FAULT;
            return LOST;
        }
        return row.read(i);
    }

    public int copy(int k, int i, int other, int j, int n) {
        latestFault = NO_FAULT;
        Sheet from = sheetAt(k);
        Sheet to = sheetAt(other);
        if (from == null || to == null) return UNKNOWN;
        if (from.isNothing() || to.isNothing()) return failing(NULL_FAULT);
        if (from.lane != to.lane) return failing(CAST_FAULT);
        if (!from.hasCells(i, n) || !to.hasCells(j, n)) return failing(INDEX_FAULT);
        System.arraycopy(from.cells, i, to.cells, j, n);
        return n;
    }

    public int tell(int t) {
        Tale tale = forest.taleAt(t);
        return tale == null ? UNKNOWN : tale.telling(traced);
    }

    public int whisper(int t) {
        Tale tale = forest.taleAt(t);
        return tale == null ? UNKNOWN : tale.whispering(traced);
    }

    public int as(int t, int kind) {
        latestFault = NO_FAULT;
        Tale tale = forest.taleAt(t);
        if (tale == null) return UNKNOWN;
        if (!isWithin(kind, KIND_TALE, KIND_OLD)) return OUTSIDE;
        return isOfKind(tale, kind) ? 1 : failing(CAST_FAULT);
    }

    public int trace() {
        return traced.value;
    }

    public int fault() {
        return latestFault;
    }

    public int many(int what) {
        switch (what) {
            case 0: return forest.count;
            case 1: return forest.steps;
            case 2: return known;
            case 3: return believed;
            case 4: return readings.count;
            default: return OUTSIDE;
        }
    }

    private Sheet sheetAt(int k) {
        return isWithin(k, 0, SHEETS - 1) ? sheets[k] : null;
    }

    private int failing(int fault) {
        latestFault = fault;
        return -10 - fault;
    }

    private static boolean isWithin(int number, int least, int most) {
        return number >= least && number <= most;
    }

    private static boolean has(int set, int number) {
        return (set >> number & 1) != 0;
    }

    private static boolean isOfKind(Tale tale, int kind) {
        if (kind == KIND_OLD) return tale instanceof OldTale;
        return kind == KIND_TALE || tale instanceof DoubleTale;
    }

    private static Night[] newNights(int n) {
        Night[] nights = new Night[Math.max(n, 0)];
        for (int k = 0; k < n; k++) {
            nights[k] = new Night();
        }
        return nights;
    }

    /** A SHEET: nothing (its lane is NONE then), or a row of a LANE. */
    static final class Sheet {
        int lane = NONE;
        int count = 0;
        final int[] cells = new int[MOST_CELLS];

        boolean isNothing() {
            return lane == NONE;
        }

        void clear() {
            lane = NONE;
            count = 0;
        }

        void renew(int newLane, int n) {
            Arrays.fill(cells, 0);
            lane = newLane;
            count = Math.min(Math.max(n, 0), MOST_CELLS);
        }

        boolean hasCell(int i) {
            return i >= 0 && i < count;
        }

        /** Beware of i + n, which may wrap. */
        boolean hasCells(int i, int n) {
            return n >= 0 && i >= 0 && i <= count && n <= count - i;
        }

        int faultOfLane(int asLane) {
            if (isNothing()) return NULL_FAULT;
            return lane == asLane ? NO_FAULT : CAST_FAULT;
        }

        int faultOfCells(int asLane, int i, int n) {
            int hindrance = faultOfLane(asLane);
            if (hindrance != NO_FAULT) return hindrance;
            if (n < 0) return SIZE_FAULT;
            return hasCells(i, n) ? NO_FAULT : INDEX_FAULT;
        }

        int read(int i) {
            return hasCell(i) ? cells[i] : 0;
        }

        void write(int i, int v) {
            if (!hasCell(i)) return;
            cells[i] = lane == BYTES ? (byte) v : lane == SHORTS ? (short) v : v;
        }
    }

    /** TRACE: the numbers that bodies have left. */
    static final class Trace {
        int value = 0;

        void leave(int number) {
            value = 31 * value + number;
        }
    }

    /** A TALE: its question is answered by one of both FACTS that it NEEDS. */
    static class Tale {
        final int number;
        final int firstNeed;
        final int secondNeed;
        final int teaches;
        final int length;

        Tale(int number, int firstNeed, int secondNeed, int teaches, int length) {
            this.number = number;
            this.firstNeed = firstNeed;
            this.secondNeed = secondNeed;
            this.teaches = teaches;
            this.length = length;
        }

        int kind() {
            return KIND_TALE;
        }

        boolean isAnswered(int knownFacts, int heardTales) {
            return hasEitherNeed(knownFacts);
        }

        final boolean hasEitherNeed(int facts) {
            return has(facts, firstNeed) || has(facts, secondNeed);
        }

        /** In 64ths, by w eighths for each FACT. */
        int oddsUnanswered(int w) {
            int dull = MOST_WITS - w;
            return firstNeed == secondNeed ? MOST_WITS * dull : dull * dull;
        }

        int telling(Trace trace) {
            return plainTelling(trace);
        }

        /** Apart from telling(), as an OLD one calls it past DOUBLE's body. */
        final int plainTelling(Trace trace) {
            trace.leave(1);
            return teaches;
        }

        int whispering(Trace trace) {
            trace.leave(4);
            return number;
        }
    }

    /** A DOUBLE: its question takes both FACTS. */
    static class DoubleTale extends Tale {
        DoubleTale(int number, int firstNeed, int secondNeed, int teaches, int length) {
            super(number, firstNeed, secondNeed, teaches, length);
        }

        int kind() {
            return KIND_DOUBLE;
        }

        boolean isAnswered(int knownFacts, int heardTales) {
            return has(knownFacts, firstNeed) && has(knownFacts, secondNeed);
        }

        int oddsUnanswered(int w) {
            return firstNeed == secondNeed ? super.oddsUnanswered(w) : WHOLE_ODDS - w * w;
        }

        int telling(Trace trace) {
            trace.leave(2);
            return super.telling(trace) + 100;
        }
    }

    /** An OLD one: a DOUBLE that is answered by having heard it ahead, too. */
    static final class OldTale extends DoubleTale {
        OldTale(int number, int firstNeed, int secondNeed, int teaches, int length) {
            super(number, firstNeed, secondNeed, teaches, length);
        }

        int kind() {
            return KIND_OLD;
        }

        boolean isAnswered(int knownFacts, int heardTales) {
            return has(heardTales, number) || super.isAnswered(knownFacts, heardTales);
        }

        int telling(Trace trace) {
            trace.leave(3);
            return super.telling(trace) + plainTelling(trace);
        }

        int whispering(Trace trace) {
            trace.leave(5);
            return 50;
        }
    }

    /** A FOREST: STEPS and TALES; no TALES, if there is none. */
    static final class Forest {
        /** Of a TEXT: how many codes stand ahead of the TALES, and how many each TALE has. */
        private static final int HEAD = 2, CODES = 6;

        int steps = 0;
        int count = 0;
        private final Tale[] tales = new Tale[MOST_TALES];

        Tale taleAt(int t) {
            return t >= 0 && t < count && t < MOST_TALES ? tales[t] : null;
        }

        /** The FIRST FAULT of a TEXT; NONE, if it is one. */
        static int firstFault(Sheet text, int i, int n) {
            for (int place = 0; place < n; place++) {
                if (!goesOn(place, text.read(i + place))) return place;
            }
            return n >= HEAD + CODES && (n - HEAD) % CODES == 0 ? NONE : n;
        }

        private static boolean goesOn(int place, int code) {
            if (place == 0) return code == 'r';
            if (place == 1) return isWithin(code, '1', '9');
            if (place >= HEAD + CODES * MOST_TALES) return false;
            switch ((place - HEAD) % CODES) {
                case 0: return code == ';';
                case 1: return code == 't' || code == 'd' || code == 'o';
                case 5: return isWithin(code, '0', '3');
                default: return isWithin(code, '0', '7');
            }
        }

        /** Takes a TEXT without FAULT. */
        void grow(Sheet text, int i, int n) {
            steps = text.read(i + 1) - '0';
            count = Math.min((n - HEAD) / CODES, MOST_TALES);
            for (int t = 0; t < count; t++) {
                tales[t] = newTale(t, text, i + HEAD + CODES * t);
            }
        }

        private static Tale newTale(int number, Sheet text, int at) {
            int letter = text.read(at + 1);
            int firstNeed = text.read(at + 2) - '0';
            int secondNeed = text.read(at + 3) - '0';
            int teaches = text.read(at + 4) - '0';
            int length = text.read(at + 5) - '0';
            if (letter == 'o') return new OldTale(number, firstNeed, secondNeed, teaches, length);
            if (letter == 'd') return new DoubleTale(number, firstNeed, secondNeed, teaches, length);
            return new Tale(number, firstNeed, secondNeed, teaches, length);
        }
    }

    /** A NIGHT as far as it has gone. */
    static final class Night {
        int step = 0;
        int flights = 0;
        int heardOut = 0;
        int known = 0;
        boolean hasCome = false;
        private int steps = 0;
        private int believed = 0;
        private int heardTales = 0;

        void begin(int stepsToCircle, int knownFacts, int believedFacts) {
            steps = stepsToCircle;
            known = knownFacts;
            believed = believedFacts;
            step = 0;
            flights = 0;
            heardOut = 0;
            heardTales = 0;
            hasCome = false;
        }

        void takeUp(Night other) {
            steps = other.steps;
            known = other.known;
            believed = other.believed;
            step = other.step;
            flights = other.flights;
            heardOut = other.heardOut;
            heardTales = other.heardTales;
            hasCome = other.hasCome;
        }

        /** One TALE more; none (null) leaves the night as it is. */
        void hear(Tale tale, boolean harkens) {
            if (tale == null || hasCome) return;
            walk(tale.length);
            if (hasCome) return;
            if (tale.isAnswered(known, heardTales)) {
                flights++;
                step = 0;
            } else if (!tale.hasEitherNeed(believed)) {
                walk(1);
            }
            heardOut++;
            heardTales = heardTales | 1 << tale.number;
            if (harkens) learn(tale);
        }

        void learn(Tale tale) {
            known = known | 1 << tale.teaches;
        }

        private void walk(int n) {
            step = Math.min(step + n, steps);
            hasCome = step == steps;
        }
    }

    /** READINGS: what ORDERS of one TALE (the second one NONE) or two, and how FAR he was by each. */
    static final class Readings {
        int count = 0;
        final int[] first = new int[MOST_READINGS];
        final int[] second = new int[MOST_READINGS];
        final int[] far = new int[MOST_READINGS];

        int add(int firstTale, int secondTale, int steps) {
            if (count < 0 || count >= MOST_READINGS) return FULL;
            first[count] = firstTale;
            second[count] = secondTale;
            far[count] = steps;
            count++;
            return count - 1;
        }
    }

    /** The search for NEVER: rows of TALES, in their order as rows. */
    static final class Never {
        int mostFlights = NONE;
        final int[] bestRow = new int[LONGEST_NEVER];
        private final int[] row = new int[LONGEST_NEVER];
        private final Night[] nights = newNights(LONGEST_NEVER + 1);
        private int length = 0;

        void seek(Forest forest, Night start, int n) {
            length = Math.min(Math.max(n, 0), LONGEST_NEVER);
            mostFlights = NONE;
            nights[0].takeUp(start);
            goOn(forest, 0, 0);
        }

        private void goOn(Forest forest, int depth, int told) {
            if (depth < 0 || depth > length) return;
            Night here = nights[depth];
            // Even if it flew at each TALE to come: only more FLIGHTS beat an earlier row.
            if (here.flights + length - depth <= mostFlights) return;
            if (depth == length) {
                mostFlights = here.flights;
                System.arraycopy(row, 0, bestRow, 0, length);
                return;
            }
            for (int t = 0; t < forest.count; t++) {
                if (!has(told, t)) tellNext(forest, depth, told, t);
            }
        }

        private void tellNext(Forest forest, int depth, int told, int t) {
            if (depth < 0 || depth >= length) return;
            Night next = nights[depth + 1];
            next.takeUp(nights[depth]);
            next.hear(forest.taleAt(t), true);
            if (next.hasCome) return;
            row[depth] = t;
            goOn(forest, depth + 1, told | 1 << t);
        }
    }

    /** The search for GAME: least and most by turns, cut where the other one would not let it come to that. */
    static final class Game {
        private final Night[] nights = newNights(LONGEST_GAME + 1);
        private int length = 0;

        int farByBestPlay(Forest forest, Night start, int n) {
            length = Math.min(Math.min(Math.max(n, 0), LONGEST_GAME), forest.count);
            nights[0].takeUp(start);
            return leastFar(forest, 0, 0, 0);
        }

        /** The corpse's turn; the king has as much as enough elsewhere, so that no less need be sought. */
        private int leastFar(Forest forest, int depth, int told, int enough) {
            if (depth < 0 || depth >= length) return nights[length].step;
            int least = forest.steps;
            for (int t = 0; t < forest.count; t++) {
                if (has(told, t)) continue;
                least = Math.min(least, mostFar(forest, depth, told, t, least));
                if (least <= enough) return least;
            }
            return least;
        }

        /** The king's turn; the corpse has as little as enough elsewhere, so that no more need be sought. */
        private int mostFar(Forest forest, int depth, int told, int t, int enough) {
            Tale tale = forest.taleAt(t);
            if (tale == null || depth < 0 || depth >= length) return 0;
            Night next = nights[depth + 1];
            next.takeUp(nights[depth]);
            next.hear(tale, false);
            if (next.hasCome) return next.step;
            int deaf = leastFar(forest, depth + 1, told | 1 << t, 0);
            if (deaf >= enough || has(next.known, tale.teaches)) return deaf;
            next.learn(tale);
            return Math.max(deaf, leastFar(forest, depth + 1, told | 1 << t, deaf));
        }
    }
}
