import java.lang.reflect.Array;
import java.util.ArrayList;
import java.util.Arrays;
import java.util.HashMap;
import java.util.List;
import java.util.Map;
import java.util.regex.Matcher;

/** The document once more, as plainly as it reads and with all of Java's library: what the class is held against. */
final class Plain {
    private static final int BAD = -1, NOT = -2, FULL = -3, BIG = -4, STATE = -5, VOID = -2000000000;

    private static final class Bowler {
        int overs, tires, cost;
        final int[] edge = {100, 100, 100, 100}, runs = new int[4];
    }

    /** A number that can be changed: an array and a place in it, or OVERS (no array). */
    private record Change(Bowler bowler, int[] row, int at, int before, int after) {
        void make(int v) {
            if (row == null) bowler.overs = v;
            else row[at] = v;
        }
    }

    private record Rule(int kind, String row, int k, PlainActs.Rule body) {
    }

    private record State(int o, int w, int last, List<Integer> steps, List<Integer> bowled) {
    }

    private final List<Bowler> bowlers = new ArrayList<>();
    private final List<Rule> rules = new ArrayList<>();
    private final int[][] fieldEdge = new int[4][4], fieldRuns = new int[4][4];
    private int field, overs = 8, rain;
    private String order = "0", tape = "";
    private final String[] texts = new String[2];
    private List<int[]> book = new ArrayList<>(), game = new ArrayList<>();
    private final List<Change> done = new ArrayList<>(), undone = new ArrayList<>();
    private List<Integer> trace = new ArrayList<>();
    private final Object[] shelves = new Object[6];

    int bowler(int o, int tires, int cost) {
        if (o < 0 || o > 8 || tires < 0 || tires > 50 || cost < 0 || cost > 20) return BAD;
        if (bowlers.size() == 4) return FULL;
        Bowler b = new Bowler();
        b.overs = o;
        b.tires = tires;
        b.cost = cost;
        bowlers.add(b);
        return bowlers.size() - 1;
    }

    private int change(Bowler b, int[] row, int at, int v) {
        int was = row == null ? b.overs : row[at];
        if (was == v) return was;
        Change c = new Change(b, row, at, was, v);
        c.make(v);
        done.add(c);
        if (done.size() > 40) done.remove(0);
        undone.clear();
        return was;
    }

    int edge(int bs, int what, int v) {
        if (bs < 0 || bs / 10 >= bowlers.size() || what < 0 || what > 2) return VOID;
        Bowler b = bowlers.get(bs / 10);
        if (what == 2) return v < 0 || v > 8 ? VOID : change(b, null, 0, v);
        if (bs % 10 > 3) return VOID;
        if (what == 0) return v < 0 || v > 500 ? VOID : change(b, b.edge, bs % 10, v);
        return v < -9 || v > 9 ? VOID : change(b, b.runs, bs % 10, v);
    }

    int field(int fs, int what, int v) {
        if (fs < 0 || fs / 10 > 3 || fs % 10 > 3 || what < 0 || what > 1) return VOID;
        if (what == 0) return v < -200 || v > 200 ? VOID : change(null, fieldEdge[fs / 10], fs % 10, v);
        return v < -9 || v > 9 ? VOID : change(null, fieldRuns[fs / 10], fs % 10, v);
    }

    int set(int f) {
        if (f < 0 || f > 3) return BAD;
        int was = field;
        field = f;
        return was;
    }

    int feed(int n, int v) {
        if (n < 1 || n > 4) return BAD;
        if (tape.length() + n > 80) return FULL;
        for (int i = 0; i < n; i++) tape += (char) (v >> 8 * i & 255);
        return tape.length();
    }

    int order() {
        String t = tape;
        tape = "";
        Matcher m = PlainText.order(t);
        if (m == null) return -100 - PlainText.orderFault(t);
        order = m.group(1);
        overs = m.group(2) == null ? 8 : Integer.parseInt(m.group(2));
        rain = m.group(3) == null ? 0 : Integer.parseInt(m.group(3));
        book.clear();
        return order.length();
    }

    int text(int use) {
        if (use != 0 && use != 1) return BAD;
        int fault = PlainText.textFault(tape);
        if (fault < 0) texts[use] = tape;
        tape = "";
        return fault < 0 ? 1 : -100 - fault;
    }

    int of(int what) {
        if (what == 0) return order.length();
        if (what == 1) return overs;
        if (what == 2) return rain;
        return what < 10 || what >= 10 + order.length() ? BAD : order.charAt(what - 10) - '0';
    }

    int over(int bst, int ow, int what) {
        if (bst < 0 || bst / 100 >= bowlers.size() || bst / 10 % 10 > 3 || bst % 10 > 3) return BAD;
        if (ow < 0 || ow / 10 > 12 || ow % 10 > 8 || what < 0 || what > 1) return BAD;
        int b = bst / 100, s = bst / 10 % 10, t = bst % 10;
        return what == 0 ? out(b, s, t, bowlers.get(b).overs, ow / 10, ow % 10) : runs(b, s, t);
    }

    private int out(int b, int s, int t, int left, int o, int w) {
        Bowler x = bowlers.get(b);
        int v = (x.edge[s] + fieldEdge[field][s]) * Math.max(0, 100 - x.tires * t) / 100;
        v += PlainText.value(texts[1], new int[] {o, w, s, b, t, left, 0, 0});
        return Math.max(0, Math.min(1000, v));
    }

    private int runs(int b, int s, int t) {
        return Math.max(0, bowlers.get(b).cost + bowlers.get(b).runs[s] + fieldRuns[field][s] + t);
    }

    // ---- states

    private State start() {
        return new State(0, 0, -1, List.of(0, 0, 0, 0), List.of(0, 0, 0, 0));
    }

    private int left(State x, int b) {
        return bowlers.get(b).overs - x.bowled.get(b);
    }

    private List<Integer> may(State x) {
        List<Integer> list = new ArrayList<>();
        for (int b = 0; b < bowlers.size(); b++) {
            if (left(x, b) > 0 && x.last != b) list.add(b);
        }
        return list;
    }

    private boolean ended(State x) {
        return x.w >= order.length() || x.o >= overs || may(x).isEmpty();
    }

    private int sort(State x) {
        return order.charAt(x.w) - '0';
    }

    private int out(State x, int b) {
        return out(b, sort(x), x.steps.get(b), left(x, b), x.o, x.w);
    }

    private int runs(State x, int b) {
        return runs(b, sort(x), x.steps.get(b));
    }

    private State after(State x, int b, int out) {
        List<Integer> steps = new ArrayList<>(), bowled = new ArrayList<>(x.bowled);
        for (int i = 0; i < 4; i++) steps.add(i == b ? Math.min(3, x.steps.get(i) + 1) : Math.max(0, x.steps.get(i) - 1));
        bowled.set(b, bowled.get(b) + 1);
        return new State(x.o + 1, x.w + out, b, steps, bowled);
    }

    private State booked(int n) {
        State x = start();
        for (int[] over : book.subList(0, n)) x = after(x, over[0], over[1]);
        return x;
    }

    private int mean(State x, int b, int ifOut, int ifNot) {
        int out = out(x, b);
        return runs(x, b) * 1000 + (1000 - rain) * ((out * ifOut + (1000 - out) * ifNot) / 1000) / 1000;
    }

    private Map<State, Integer> known = new HashMap<>();

    private int least(State x) {
        if (ended(x)) return 0;
        Integer v = known.get(x);
        if (v != null) return v;
        int least = Integer.MAX_VALUE;
        for (int b : may(x)) least = Math.min(least, with(x, b));
        known.put(x, least);
        return least;
    }

    private int with(State x, int b) {
        return mean(x, b, least(after(x, b, 1)), least(after(x, b, 0)));
    }

    private int whom(State x) {
        for (int b : may(x)) {
            if (with(x, b) == least(x)) return b;
        }
        throw new IllegalStateException();
    }

    private int best(State x) {
        known = new HashMap<>();
        return least(x);
    }

    // ---- rules

    int rule(int kind, int row, int k) {
        String r = row == 0 ? "" : String.valueOf(row);
        if (kind < 0 || kind > 6 || !r.matches("[1-4]{0,8}") || k < 0 || k > 12) return BAD;
        if (rules.size() == 20) return FULL;
        rules.add(new Rule(kind, r, k, PlainActs.make(kind, rules.size())));
        return rules.size() - 1;
    }

    private boolean noRule(int r) {
        return r < 0 || r >= rules.size();
    }

    private int putOn(Rule r, State x) {
        List<Integer> may = may(x);
        switch (r.kind) {
            case 0: return may.get(0);
            case 2: return whom(x);
            case 1: case 4:
                if (r.row.isEmpty()) return may.get(0);
                Integer first = r.row.charAt(0) - '1';
                if (r.kind == 4 && x.o < r.k && may.size() > 1) may.remove(first);
                int turn = r.row.charAt(x.o % r.row.length()) - '1';
                return may.contains(turn) ? turn : may.get(0);
            default:
                int who = may.get(0);
                for (int b : may) {
                    if (rating(r, x, b) > rating(r, x, who)) who = b;
                }
                return who;
        }
    }

    private long rating(Rule r, State x, int b) {
        if (r.kind == 3) return -(1000L * runs(x, b) - out(x, b));
        if (r.kind == 5) return out(x, b);
        return PlainText.value(texts[0], new int[] {x.o, x.w, sort(x), b, x.steps.get(b), left(x, b), out(x, b), r.k});
    }

    int puts(int r) {
        if (noRule(r)) return BAD;
        if (rules.get(r).kind == 2 && overs - book.size() > 8) return BIG;
        State x = booked(book.size());
        known = new HashMap<>();
        return ended(x) ? NOT : putOn(rules.get(r), x);
    }

    int mean(int r) {
        if (noRule(r)) return BAD;
        known = new HashMap<>();
        return overs > 8 ? BIG : meanOf(rules.get(r), start());
    }

    private int meanOf(Rule r, State x) {
        if (ended(x)) return 0;
        int b = putOn(r, x);
        return mean(x, b, meanOf(r, after(x, b, 1)), meanOf(r, after(x, b, 0)));
    }

    int likely(int r, int n) {
        if (noRule(r) || n < 0 || n > 999) return BAD;
        known = new HashMap<>();
        return overs > 8 ? BIG : (int) likelyOf(rules.get(r), start(), n);
    }

    private long likelyOf(Rule r, State x, int n) {
        if (ended(x)) return n > 0 ? 1000000 : 0;
        int b = putOn(r, x), then = n - runs(x, b);
        long out = out(x, b), over = then > 0 ? 1000000 : 0;
        long on = (out * likelyOf(r, after(x, b, 1), then) + (1000 - out) * likelyOf(r, after(x, b, 0), then)) / 1000;
        return (rain * over + (1000 - rain) * on) / 1000;
    }

    // ---- the best

    int best(int what) {
        if (what != 0 && what != 1) return BAD;
        if (overs - book.size() > 8) return BIG;
        State x = booked(book.size());
        int v = best(x);
        if (what == 0) return v;
        return ended(x) ? NOT : whom(x);
    }

    int worth(int b, int what) {
        if (b < 0 || b >= bowlers.size() || what < 0 || what > 1 || overs > 8) return VOID;
        int now = best(start()), had = bowlers.get(b).overs;
        bowlers.get(b).overs = what == 0 ? 0 : had + 1;
        int other = best(start());
        bowlers.get(b).overs = had;
        return what == 0 ? other - now : now - other;
    }

    private int bestIn(int f) {
        int had = field;
        field = f;
        int v = best(start());
        field = had;
        return v;
    }

    int fielded(int f, int what) {
        if (what != 1 && (what != 0 || f < 0 || f > 3)) return BAD;
        if (overs > 8) return BIG;
        if (what == 0) return bestIn(f);
        int at = 0;
        for (int i = 1; i < 4; i++) {
            if (bestIn(i) < bestIn(at)) at = i;
        }
        return at;
    }

    int kept(int b) {
        if (b < 0 || b >= bowlers.size()) return BAD;
        if (overs > 8) return BIG;
        known = new HashMap<>();
        for (State x = start(); !ended(x); x = after(x, whom(x), 0)) {
            if (whom(x) == b) return x.o;
        }
        return NOT;
    }

    int theirs(int what) {
        if (what != 0 && what != 1) return BAD;
        if (overs > 8 || order.length() > 5) return BIG;
        String had = order, found = null;
        int most = 0;
        char[] sorted = had.toCharArray();
        Arrays.sort(sorted);
        List<String> all = new ArrayList<>();
        turns("", new String(sorted), all);
        for (String one : all) {
            order = one;
            int v = best(start());
            if (found == null || v > most) {
                found = one;
                most = v;
            }
        }
        order = had;
        return what == 0 ? Integer.parseInt(found) : most;
    }

    private static void turns(String head, String rest, List<String> all) {
        if (rest.isEmpty() && !all.contains(head)) all.add(head);
        for (int i = 0; i < rest.length(); i++) {
            if (i == 0 || rest.charAt(i) != rest.charAt(i - 1)) turns(head + rest.charAt(i), rest.substring(0, i) + rest.substring(i + 1), all);
        }
    }

    int learn(int bs, int nk) {
        int n = nk / 100, k = nk % 100;
        if (bs < 0 || bs / 10 >= bowlers.size() || bs % 10 > 3 || nk < 0 || n > 99 || k > n) return BAD;
        int v = Math.min(500, 1000 * (k + 1) / (n + 2));
        change(bowlers.get(bs / 10), bowlers.get(bs / 10).edge, bs % 10, v);
        return v;
    }

    // ---- the book, games

    private boolean mayBe(int b) {
        State x = booked(book.size());
        return !ended(x) && may(x).contains(b);
    }

    int book(int b, int out) {
        if (b < 0 || b >= bowlers.size() || out < 0 || out > 1) return BAD;
        if (!mayBe(b)) return STATE;
        if (book.size() == 12) return FULL;
        book.add(new int[] {b, out});
        return book.size();
    }

    int books(int shelf, int i) {
        if (shelf < 0 || shelf > 5) return BAD;
        if (shelves[shelf] != null && !(shelves[shelf] instanceof byte[])) return -12;
        book.clear();
        try {
            for (int at = i;; at++) {
                byte v = ((byte[]) shelves[shelf])[at];
                if (v < 0 || v > 19 || v % 10 >= bowlers.size() || !mayBe(v % 10)) break;
                book.add(new int[] {v % 10, v / 10});
            }
        } catch (NullPointerException | ArrayIndexOutOfBoundsException e) {
            // it ends where the row is missing or ends
        }
        return book.size();
    }

    int close() {
        int n = book.size();
        book.clear();
        return n;
    }

    private int costOf(int i) {
        State x = booked(i);
        known = new HashMap<>();
        return ended(x) ? 0 : with(x, book.get(i)[0]) - least(x);
    }

    int cost(int i) {
        return i < 0 || i >= book.size() || overs - i > 8 ? VOID : costOf(i);
    }

    int lost(int what) {
        if (what < 0 || what > 2 || book.isEmpty()) return BAD;
        if (overs > 8) return BIG;
        int at = 0, sum = 0;
        for (int i = 0; i < book.size(); i++) {
            sum += costOf(i);
            if (costOf(i) > costOf(at)) at = i;
        }
        return what == 0 ? at : what == 1 ? costOf(at) : sum;
    }

    int game(int r, int seed) {
        if (noRule(r)) return BAD;
        if (overs > 8) return BIG;
        known = new HashMap<>();
        game = new ArrayList<>();
        int z = seed, sum = 0;
        State x = start();
        while (!ended(x)) {
            int b = putOn(rules.get(r), x);
            z = z * 1103515245 + 12345;
            int out = (z >>> 8) % 1000 < out(x, b) ? 1 : 0;
            game.add(new int[] {b, runs(x, b), out});
            sum += runs(x, b);
            x = after(x, b, out);
            z = z * 1103515245 + 12345;
            if ((z >>> 8) % 1000 < rain) break;
        }
        return sum;
    }

    int led(int i, int what) {
        if (i == -1 && what == 0) return game.size();
        return i < 0 || i >= game.size() || what < 0 || what > 2 ? BAD : game.get(i)[what];
    }

    int undo() {
        if (done.isEmpty()) return STATE;
        Change c = done.remove(done.size() - 1);
        c.make(c.before);
        undone.add(c);
        return done.size();
    }

    int redo() {
        if (undone.isEmpty()) return STATE;
        Change c = undone.remove(undone.size() - 1);
        c.make(c.after);
        done.add(c);
        return undone.size();
    }

    // ---- acts, shelves

    int act(int r, int act, int x) {
        trace = new ArrayList<>();
        if (noRule(r) || act < 0 || act > 3) return 0;
        int v = PlainActs.run(rules.get(r).body, act, x);
        trace = new ArrayList<>(rules.get(r).body.trace);
        return v;
    }

    int trace(int i) {
        return i < 0 || i >= Math.min(24, trace.size()) ? BAD : trace.get(i);
    }

    int keep(int shelf, int r) {
        if (shelf < 0 || shelf > 5 || r != -1 && noRule(r)) return BAD;
        shelves[shelf] = r == -1 ? null : rules.get(r).body;
        return 1;
    }

    int row(int shelf, int sort, int n) {
        if (shelf < 0 || shelf > 5 || sort < 0 || sort > 4 || n > 60) return BAD;
        if (n < 0) return -14;
        Class<?>[] sorts = {byte.class, short.class, int.class, long.class, boolean.class};
        shelves[shelf] = Array.newInstance(sorts[sort], n);
        return 1;
    }

    private int refused(int shelf, int i) {
        if (shelf < 0 || shelf > 5) return BAD;
        if (shelves[shelf] == null) return -11;
        if (!shelves[shelf].getClass().isArray()) return -12;
        return i < 0 || i >= Array.getLength(shelves[shelf]) ? -13 : 1;
    }

    int put(int shelf, int i, long v) {
        int no = refused(shelf, i);
        if (no < 0) return no;
        Object a = shelves[shelf];
        if (a instanceof byte[] r) r[i] = (byte) v;
        else if (a instanceof short[] r) r[i] = (short) v;
        else if (a instanceof int[] r) r[i] = (int) v;
        else if (a instanceof long[] r) r[i] = v;
        else ((boolean[]) a)[i] = v != 0;
        return 1;
    }

    long element(int shelf, int i) {
        if (refused(shelf, i) < 0) return Long.MIN_VALUE;
        if (shelves[shelf] instanceof boolean[] r) return r[i] ? 1 : 0;
        return Array.getLong(shelves[shelf], i);
    }

    @SuppressWarnings("SuspiciousSystemArraycopy")
    int shift(int shelf, int i, int other, int j, int n) {
        if (shelf < 0 || shelf > 5 || other < 0 || other > 5) return BAD;
        Object a = shelves[shelf], b = shelves[other];
        if (a == null || b == null) return -11;
        if (!a.getClass().isArray() || a.getClass() != b.getClass()) return -12;
        try {
            System.arraycopy(a, i, b, j, n);
        } catch (ArrayIndexOutOfBoundsException e) {
            return -13;
        }
        return n;
    }

    int taken(int shelf, int k) {
        if (shelf < 0 || shelf > 5 || k < 0 || k > 6) return BAD;
        if (shelves[shelf] == null) return -11;
        if (!PlainActs.KINDS[k].isInstance(shelves[shelf])) return -12;
        return Arrays.asList(PlainActs.KINDS).indexOf(shelves[shelf].getClass());
    }

    int count(int what) {
        int[] all = {bowlers.size(), rules.size(), tape.length(), book.size(), done.size(), trace.size()};
        return what < 0 || what > 5 ? BAD : all[what];
    }
}
