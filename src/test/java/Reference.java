import java.util.ArrayList;
import java.util.Arrays;
import java.util.HashSet;
import java.util.List;
import java.util.Set;
import java.util.TreeSet;
import java.util.regex.Matcher;
import java.util.regex.Pattern;

/**
 * The document once more, written another way: by the machine's own faults, by a pattern for the TEXT,
 * by nights that are gone through anew from their first TALE, and by searches that leave nothing out.
 */
final class Reference {
    private static final Pattern TEXT = Pattern.compile("r[1-9](;[tdo][0-7][0-7][0-7][0-3]){1,8}");

    private final Object[] sheets = new Object[4];
    private String text = "";
    private int fault = 0;
    private int trace = 0;
    private final Set<Integer> known = new TreeSet<>();
    private final Set<Integer> believed = new TreeSet<>();
    private final List<int[]> readings = new ArrayList<>();

    /** What a call answers that comes to one of the machine's FAULTS or is refused. */
    private static final class Answer extends RuntimeException {
        private static final long serialVersionUID = 1L;
        final int value;

        Answer(int value) {
            super(null, null, false, false);
            this.value = value;
        }
    }

    private interface Call {
        long answer();
    }

    private static void refuse(boolean when, int with) {
        if (when) throw new Answer(with);
    }

    private static long plain(Call call) {
        try {
            return call.answer();
        } catch (Answer refused) {
            return refused.value;
        }
    }

    /** A call that names FAULTS. */
    private long faulty(Call call) {
        fault = 0;
        try {
            return call.answer();
        } catch (Answer refused) {
            return refused.value;
        } catch (NullPointerException e) {
            fault = 1;
        } catch (ClassCastException | ArrayStoreException e) {
            fault = 2;
        } catch (IndexOutOfBoundsException e) {
            fault = 3;
        } catch (NegativeArraySizeException e) {
            fault = 4;
        }
        return -10 - fault;
    }

    private static boolean in(int number, int least, int most) {
        return least <= number && number <= most;
    }

    private int[] cells(int sheet, int lane, int i, int n) {
        Object had = sheets[sheet];
        if (lane == 0) had = (byte[]) had;
        if (lane == 1) had = (short[]) had;
        if (lane == 2) had = (int[]) had;
        had.getClass();
        if (n > 60) throw new IndexOutOfBoundsException();
        int[] taken = new int[n];
        Object same = lane == 0 ? new byte[n] : lane == 1 ? new short[n] : new int[n];
        System.arraycopy(had, i, same, 0, n);
        for (int k = 0; k < n; k++) taken[k] = (int) java.lang.reflect.Array.getLong(same, k);
        return taken;
    }

    // ---- the forest

    long forest(int sheet, int lane, int i, int n) {
        return faulty(() -> {
            refuse(!in(sheet, 0, 3), -1);
            refuse(!in(lane, 0, 2), -2);
            StringBuilder told = new StringBuilder();
            for (int code : cells(sheet, lane, i, n)) told.append(in(code, 0, 127) ? (char) code : '?');
            for (int end = 1; end <= n; end++) {
                Matcher match = TEXT.matcher(told.substring(0, end));
                refuse(!match.matches() && !match.hitEnd(), -100 - (end - 1));
            }
            refuse(!TEXT.matcher(told).matches(), -100 - n);
            text = told.toString();
            known.clear();
            believed.clear();
            readings.clear();
            return tales();
        });
    }

    private int tales() {
        return text.isEmpty() ? 0 : text.split(";").length - 1;
    }

    private int steps() {
        return text.isEmpty() ? 0 : text.charAt(1) - '0';
    }

    private String tale(int t) {
        return text.split(";")[t + 1];
    }

    private int digit(int t, int place) {
        return tale(t).charAt(place) - '0';
    }

    private boolean isTale(int t) {
        return in(t, 0, tales() - 1);
    }

    private boolean answers(int t, Set<Integer> facts, List<Integer> heard) {
        boolean one = facts.contains(digit(t, 1));
        boolean two = facts.contains(digit(t, 2));
        switch (tale(t).charAt(0)) {
            case 't': return one || two;
            case 'd': return one && two;
            default: return one && two || heard.contains(t);
        }
    }

    long ofTale(int t, int what) {
        return plain(() -> {
            refuse(!isTale(t), -1);
            refuse(!in(what, 0, 5), -2);
            if (what == 0) return "tdo".indexOf(tale(t).charAt(0));
            if (what == 5) return answers(t, known, List.of()) ? 1 : 0;
            return digit(t, what);
        });
    }

    private long change(Set<Integer> set, int fact, boolean is) {
        return plain(() -> {
            refuse(!in(fact, 0, 7), -1);
            refuse(text.isEmpty(), -3);
            return (is ? set.add(fact) : set.remove(fact)) ? 1 : 0;
        });
    }

    long know(int fact, boolean is) {
        return change(known, fact, is);
    }

    long believe(int fact, boolean is) {
        return change(believed, fact, is);
    }

    // ---- nights

    private static int bits(Iterable<Integer> set) {
        int sum = 0;
        for (int k : set) sum += 1 << k;
        return sum;
    }

    private static Set<Integer> setOf(int bits) {
        Set<Integer> set = new TreeSet<>();
        for (int k = 0; k < 8; k++) if ((bits & 1 << k) != 0) set.add(k);
        return set;
    }

    /** FAR, FLIGHTS, HEARD, what he KNOWS then, whether he has COME; deaf: at which places he does not harken. */
    private int[] nightBy(Set<Integer> ahead, List<Integer> order, Set<Integer> deaf) {
        Set<Integer> facts = new TreeSet<>(ahead);
        List<Integer> heard = new ArrayList<>();
        int at = 0;
        int flights = 0;
        boolean come = false;
        for (int t : order) {
            at += digit(t, 4);
            if (at >= steps()) {
                come = true;
                break;
            }
            if (answers(t, facts, heard)) {
                at = 0;
                flights++;
            } else if (!believed.contains(digit(t, 1)) && !believed.contains(digit(t, 2))) {
                at++;
            }
            if (!deaf.contains(heard.size())) facts.add(digit(t, 3));
            heard.add(t);
            if (at >= steps()) {
                come = true;
                break;
            }
        }
        return new int[] {come ? steps() : at, flights, heard.size(), bits(facts), come ? 1 : 0};
    }

    private List<Integer> order(int sheet, int lane, int i, int n, int what) {
        refuse(!in(sheet, 0, 3), -1);
        refuse(!in(lane, 0, 2) || !in(what, 0, 3), -2);
        refuse(text.isEmpty(), -3);
        List<Integer> order = new ArrayList<>();
        for (int t : cells(sheet, lane, i, n)) order.add(t);
        refuse(n > 20, -2);
        for (int t : order) refuse(!isTale(t), -1);
        return order;
    }

    long night(int sheet, int lane, int i, int n, int what) {
        return faulty(() -> nightBy(known, order(sheet, lane, i, n, what), Set.of())[what]);
    }

    long comes(int sheet, int lane, int i, int n) {
        return faulty(() -> nightBy(known, order(sheet, lane, i, n, 0), Set.of())[4]);
    }

    // ---- orders, studies

    private void rows(List<Integer> begun, int n, List<List<Integer>> all) {
        if (begun.size() == n) {
            all.add(new ArrayList<>(begun));
            return;
        }
        for (int t = 0; t < tales(); t++) {
            if (begun.contains(t)) continue;
            begun.add(t);
            rows(begun, n, all);
            begun.remove(begun.size() - 1);
        }
    }

    long never(int n, int q) {
        return plain(() -> {
            refuse(!in(n, 1, 5) || !in(q, -1, 4), -2);
            refuse(text.isEmpty(), -3);
            List<List<Integer>> all = new ArrayList<>();
            rows(new ArrayList<>(), n, all);
            List<Integer> best = null;
            int most = -1;
            for (List<Integer> row : all) {
                int[] night = nightBy(known, row, Set.of());
                if (night[4] == 0 && night[2] == n && night[1] > most) {
                    most = night[1];
                    best = row;
                }
            }
            refuse(best == null || q >= n, -9);
            return q == -1 ? most : best.get(q);
        });
    }

    long study(int sheet, int lane, int i, int n) {
        return faulty(() -> {
            List<Integer> order = order(sheet, lane, i, n, 0);
            for (int size = 0; size <= 8; size++) {
                for (int other = 0; other < 256; other++) {
                    if (setOf(other).size() != size) continue;
                    if (nightBy(setOf(bits(known) ^ other), order, Set.of())[4] == 1) return other;
                }
            }
            return -9;
        });
    }

    private int play(List<Integer> told, Set<Integer> deaf, int n) {
        int[] now = nightBy(known, told, deaf);
        if (now[4] == 1 || told.size() == n || told.size() == tales()) return now[0];
        int least = Integer.MAX_VALUE;
        for (int t = 0; t < tales(); t++) {
            if (told.contains(t)) continue;
            List<Integer> more = new ArrayList<>(told);
            more.add(t);
            Set<Integer> deafer = new HashSet<>(deaf);
            deafer.add(told.size());
            least = Math.min(least, Math.max(play(more, deaf, n), play(more, deafer, n)));
        }
        return least;
    }

    long game(int n) {
        return plain(() -> {
            refuse(!in(n, 1, 4), -2);
            refuse(text.isEmpty(), -3);
            return play(List.of(), Set.of(), n);
        });
    }

    // ---- porters, what was seen

    long porter(int w, int t, int which) {
        if (!isTale(t) || !in(w, 0, 8) || !in(which, 0, 1)) return Long.MIN_VALUE;
        long upper = 0;
        long lower = 0;
        for (int set = 0; set < 256; set++) {
            long weight = 1;
            for (int fact = 0; fact < 8; fact++) weight *= setOf(set).contains(fact) ? w : 8 - w;
            lower += weight;
            if (!answers(t, setOf(set), List.of())) upper += weight;
        }
        long divisor = java.math.BigInteger.valueOf(upper).gcd(java.math.BigInteger.valueOf(lower)).longValue();
        return (which == 0 ? upper : lower) / divisor;
    }

    long reading(int t, int other, int far) {
        return plain(() -> {
            refuse(!isTale(t) || other != -9 && !isTale(other), -1);
            refuse(!in(far, 0, 9), -2);
            refuse(readings.size() == 8, -4);
            readings.add(new int[] {t, other, far});
            return readings.size() - 1;
        });
    }

    long back(int k) {
        return plain(() -> {
            refuse(!in(k, 0, readings.size()), -2);
            readings.subList(readings.size() - k, readings.size()).clear();
            return readings.size();
        });
    }

    private boolean isFit(int set) {
        for (int[] seen : readings) {
            List<Integer> order = seen[1] == -9 ? List.of(seen[0]) : List.of(seen[0], seen[1]);
            if (nightBy(setOf(set), order, Set.of())[0] != seen[2]) return false;
        }
        return true;
    }

    long fits(int what) {
        return plain(() -> {
            refuse(!in(what, 0, 2), -2);
            refuse(text.isEmpty(), -3);
            List<Integer> all = new ArrayList<>();
            for (int set = 0; set < 256; set++) if (isFit(set)) all.add(set);
            if (what == 0) return all.size();
            if (what == 1) return all.isEmpty() ? -9 : all.get(0);
            Set<Integer> strange = new TreeSet<>(Arrays.asList(0, 1, 2, 3, 4, 5, 6, 7));
            for (int set : all) strange.removeAll(setOf(set));
            return bits(strange);
        });
    }

    // ---- sheets, parts

    long sheet(int k, int lane, int n) {
        return faulty(() -> {
            refuse(!in(k, 0, 3), -1);
            refuse(!in(lane, 0, 2) || n > 60, -2);
            sheets[k] = lane == 0 ? new byte[n] : lane == 1 ? new short[n] : new int[n];
            return 1;
        });
    }

    long lose(int k) {
        return plain(() -> {
            refuse(!in(k, 0, 3), -1);
            boolean had = sheets[k] != null;
            sheets[k] = null;
            return had ? 1 : 0;
        });
    }

    long put(int k, int i, int v) {
        return faulty(() -> {
            refuse(!in(k, 0, 3), -1);
            sheets[k].getClass();
            if (sheets[k] instanceof byte[]) ((byte[]) sheets[k])[i] = (byte) v;
            if (sheets[k] instanceof short[]) ((short[]) sheets[k])[i] = (short) v;
            if (sheets[k] instanceof int[]) ((int[]) sheets[k])[i] = v;
            return 1;
        });
    }

    long cell(int k, int i, int lane) {
        boolean[] right = new boolean[1];
        long answer = faulty(() -> {
            refuse(!in(k, 0, 3) || !in(lane, 0, 2), 0);
            long value = lane == 0 ? ((byte[]) sheets[k])[i] : lane == 1 ? ((short[]) sheets[k])[i] : ((int[]) sheets[k])[i];
            right[0] = true;
            return value;
        });
        return right[0] ? answer : Long.MIN_VALUE;
    }

    long copy(int k, int i, int other, int j, int n) {
        return faulty(() -> {
            refuse(!in(k, 0, 3) || !in(other, 0, 3), -1);
            System.arraycopy(sheets[k], i, sheets[other], j, n);
            return n;
        });
    }

    private void leave(int... numbers) {
        for (int number : numbers) trace = trace * 31 + number;
    }

    long tell(int t) {
        return plain(() -> {
            refuse(!isTale(t), -1);
            switch (tale(t).charAt(0)) {
                case 't':
                    leave(1);
                    return digit(t, 3);
                case 'd':
                    leave(2, 1);
                    return digit(t, 3) + 100;
                default:
                    leave(3, 2, 1, 1);
                    return 2 * digit(t, 3) + 100;
            }
        });
    }

    long whisper(int t) {
        return plain(() -> {
            refuse(!isTale(t), -1);
            boolean old = tale(t).charAt(0) == 'o';
            leave(old ? 5 : 4);
            return old ? 50 : t;
        });
    }

    long as(int t, int kind) {
        return faulty(() -> {
            refuse(!isTale(t), -1);
            refuse(!in(kind, 0, 2), -2);
            if ("tdo".indexOf(tale(t).charAt(0)) < kind) throw new ClassCastException();
            return 1;
        });
    }

    long trace() {
        return trace;
    }

    long fault() {
        return fault;
    }

    long many(int what) {
        switch (what) {
            case 0: return tales();
            case 1: return steps();
            case 2: return bits(known);
            case 3: return bits(believed);
            case 4: return readings.size();
            default: return -2;
        }
    }
}
