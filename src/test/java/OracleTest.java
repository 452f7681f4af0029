import java.util.Random;

/** Runs of calls by seed, ordinary and wrong ones, each answer held against the plain reading of the document. */
public final class OracleTest {
    private static final Checks CHECKS = new Checks();
    private static final String SIGNS = "owsbtlpk0123456789+-*/%|&<=>!()?;:r";
    private static final int[] ODD = {Integer.MIN_VALUE, Integer.MAX_VALUE, -1, 0, 1, -100, 100, 1000, 61, -10, Integer.MIN_VALUE + 1};

    private final Random random;
    private final ChangeBowler x = new ChangeBowler();
    private final Plain y = new Plain();
    private final boolean shortGames;

    private OracleTest(long seed) {
        random = new Random(seed);
        shortGames = seed % 4 != 0;
    }

    public static void main(String[] args) {
        int runs = args.length > 0 ? Integer.parseInt(args[0]) : 400;
        for (int seed = 0; seed < runs && CHECKS.wrong() < 20; seed++) {
            CHECKS.about("seed " + seed);
            new OracleTest(seed).run();
        }
        CHECKS.end();
    }

    private void run() {
        begin();
        for (int n = 0; n < 400; n++) call();
    }

    private int upTo(int n) {
        return random.nextInt(n);
    }

    /** Mostly from low to high; at times just beside, or far off. */
    private int near(int low, int high) {
        int lot = upTo(60);
        if (lot == 0) return ODD[upTo(ODD.length)];
        if (lot == 1) return low - 1;
        if (lot == 2) return high + 1;
        return low + upTo(high - low + 1);
    }

    private void begin() {
        int n = upTo(5);
        for (int i = 0; i < n; i++) bowler();
        for (int i = 0; i < 12; i++) change();
        if (upTo(4) > 0) newOrder();
        for (int i = 0; i < 7; i++) rule();
        if (upTo(2) == 0) newText(upTo(2));
    }

    private void bowler() {
        int a = near(0, upTo(3) == 0 ? 8 : 3), b = near(0, 50), c = near(0, upTo(2) == 0 ? 20 : 6);
        CHECKS.same("bowler(" + a + "," + b + "," + c + ")", x.bowler(a, b, c), y.bowler(a, b, c));
    }

    private void change() {
        int lot = upTo(8), w, v;
        int bs = upTo(20) == 0 ? near(0, 50) : 10 * upTo(4) + upTo(4);
        if (lot < 2) {
            w = near(0, 1);
            v = w == 0 ? near(-200, 200) : near(-9, 9);
            CHECKS.same("field(" + bs + "," + w + "," + v + ")", x.field(bs, w, v), y.field(bs, w, v));
            return;
        }
        w = near(0, 2);
        v = w == 0 ? near(0, 500) : w == 1 ? near(-9, 9) : near(0, 8);
        CHECKS.same("edge(" + bs + "," + w + "," + v + ")", x.edge(bs, w, v), y.edge(bs, w, v));
    }

    private void rule() {
        int row = 0, k = near(0, 12), kind = near(0, 6);
        int digits = upTo(9);
        for (int i = 0; i < digits; i++) row = row * 10 + 1 + upTo(4);
        if (upTo(15) == 0) row = near(0, 444);
        CHECKS.same("rule(" + kind + "," + row + "," + k + ")", x.rule(kind, row, k), y.rule(kind, row, k));
    }

    private void feed(String s) {
        for (int i = 0; i < s.length();) {
            int n = Math.min(1 + upTo(4), s.length() - i), v = 0;
            for (int j = 0; j < n; j++) v |= (s.charAt(i + j) & 255) << 8 * j;
            if (n < 4) v |= random.nextInt() << 8 * n;
            CHECKS.same("feed(" + n + "," + v + ")", x.feed(n, v), y.feed(n, v));
            i += n;
        }
    }

    private String spoilt(String s) {
        if (upTo(4) > 0) return s;
        int at = upTo(s.length() + 1);
        String mid = upTo(20) == 0 ? String.valueOf((char) upTo(256)) : String.valueOf(SIGNS.charAt(upTo(SIGNS.length())));
        switch (upTo(3)) {
            case 0: return s.substring(0, at);
            case 1: return s.substring(0, at) + mid + s.substring(at);
            default: return s.substring(0, at) + mid + (at < s.length() ? s.substring(at + 1) : "");
        }
    }

    private void newOrder() {
        StringBuilder b = new StringBuilder();
        int n = upTo(12) == 0 ? upTo(10) : 1 + upTo(shortGames ? 4 : 6);
        for (int i = 0; i < n; i++) b.append(upTo(4));
        if (upTo(4) > 0) b.append(':').append(upTo(6) == 0 ? upTo(130) : 1 + upTo(shortGames ? 6 : 12));
        if (upTo(3) == 0) b.append('r').append(upTo(10) == 0 ? upTo(3000) : upTo(2) == 0 ? upTo(50) : upTo(1000));
        String s = spoilt(b.toString());
        feed(s);
        CHECKS.same("order() of " + s, x.order(), y.order());
    }

    private String expression(int deep) {
        int lot = upTo(deep > 3 ? 5 : 10);
        if (lot < 1) return String.valueOf(upTo(upTo(5) == 0 ? 10000 : 60));
        if (lot < 5) return String.valueOf("owsbtlpk".charAt(upTo(8)));
        if (lot == 5) return "!" + expression(deep + 2);
        if (lot == 6) return "-" + expression(deep + 2);
        if (lot == 7) return "(" + expression(deep + 1) + ")";
        return expression(deep + 1) + "+-*/%|&<=>".charAt(upTo(10)) + expression(deep + 1);
    }

    private void newText(int use) {
        StringBuilder b = new StringBuilder();
        int lines = 1 + upTo(3);
        for (int i = 0; i < lines; i++) {
            if (i > 0) b.append(';');
            b.append(expression(0));
            if (upTo(2) == 0) b.append('?').append(expression(0));
        }
        if (upTo(10) == 0) {
            b.setLength(0);
            for (int n = upTo(10); n > 0; n--) b.append(SIGNS.charAt(upTo(SIGNS.length())));
        }
        String s = spoilt(b.toString());
        feed(s);
        CHECKS.same("text(" + use + ") of " + s, x.text(use), y.text(use));
    }

    private void call() {
        int lot = upTo(100);
        if (lot < 34) asked();
        else if (lot < 60) played();
        else if (lot < 85) shelved();
        else told();
    }

    private void told() {
        int a;
        switch (upTo(12)) {
            case 0: bowler(); break;
            case 1: rule(); break;
            case 2: newOrder(); break;
            case 3: newText(near(0, 1)); break;
            case 4:
                a = near(0, 3);
                CHECKS.same("set(" + a + ")", x.set(a), y.set(a));
                break;
            case 5:
                int n = near(1, 4), v = random.nextInt();
                CHECKS.same("feed(" + n + "," + v + ")", x.feed(n, v), y.feed(n, v));
                break;
            case 6: case 7:
                CHECKS.same("undo()", x.undo(), y.undo());
                break;
            case 8:
                CHECKS.same("redo()", x.redo(), y.redo());
                break;
            case 9:
                int bs = near(0, 33), k = upTo(30), nk = upTo(10) == 0 ? near(0, 9999) : 100 * (k + upTo(30)) + k;
                CHECKS.same("learn(" + bs + "," + nk + ")", x.learn(bs, nk), y.learn(bs, nk));
                break;
            default: change();
        }
    }

    private void asked() {
        int a = near(0, 3), w = near(0, 1), r = near(0, 6);
        switch (upTo(12)) {
            case 0: case 1:
                int bst = upTo(9) == 0 ? near(0, 340) : 100 * upTo(4) + 10 * upTo(4) + upTo(4), ow = near(0, 129);
                CHECKS.same("over(" + bst + "," + ow + "," + w + ")", x.over(bst, ow, w), y.over(bst, ow, w));
                break;
            case 2:
                a = upTo(2) == 0 ? near(0, 2) : near(9, 18);
                CHECKS.same("of(" + a + ")", x.of(a), y.of(a));
                break;
            case 3: CHECKS.same("puts(" + r + ")", x.puts(r), y.puts(r)); break;
            case 4: CHECKS.same("mean(" + r + ")", x.mean(r), y.mean(r)); break;
            case 5:
                a = upTo(2) == 0 ? near(0, 60) : near(0, 999);
                CHECKS.same("likely(" + r + "," + a + ")", x.likely(r, a), y.likely(r, a));
                break;
            case 6: CHECKS.same("best(" + w + ")", x.best(w), y.best(w)); break;
            case 7: CHECKS.same("worth(" + a + "," + w + ")", x.worth(a, w), y.worth(a, w)); break;
            case 8: CHECKS.same("fielded(" + a + "," + w + ")", x.fielded(a, w), y.fielded(a, w)); break;
            case 9: CHECKS.same("kept(" + a + ")", x.kept(a), y.kept(a)); break;
            case 10:
                if (upTo(3) == 0) CHECKS.same("theirs(" + w + ")", x.theirs(w), y.theirs(w));
                break;
            default:
                a = near(0, 5);
                CHECKS.same("count(" + a + ")", x.count(a), y.count(a));
        }
    }

    private void played() {
        int a, b = near(0, 3), w = near(0, 2);
        switch (upTo(10)) {
            case 0: case 1: case 2: case 3:
                a = near(0, 1);
                if (upTo(3) > 0) a = 0;
                CHECKS.same("book(" + b + "," + a + ")", x.book(b, a), y.book(b, a));
                break;
            case 4:
                a = near(0, 6);
                CHECKS.same("cost(" + a + ")", x.cost(a), y.cost(a));
                break;
            case 5: CHECKS.same("lost(" + w + ")", x.lost(w), y.lost(w)); break;
            case 6:
                if (upTo(3) == 0) CHECKS.same("close()", x.close(), y.close());
                break;
            case 7:
                a = near(0, 6);
                int seed = random.nextInt();
                CHECKS.same("game(" + a + "," + seed + ")", x.game(a, seed), y.game(a, seed));
                break;
            default:
                a = near(-1, 7);
                CHECKS.same("led(" + a + "," + w + ")", x.led(a, w), y.led(a, w));
        }
    }

    private void shelved() {
        int s = near(0, 5), i = near(0, 6), v = near(0, 13);
        switch (upTo(12)) {
            case 0:
                int r = near(-1, 6);
                CHECKS.same("keep(" + s + "," + r + ")", x.keep(s, r), y.keep(s, r));
                break;
            case 1: case 2:
                int sort = near(0, 4), n = upTo(5) == 0 ? near(0, 60) : near(0, 8);
                if (upTo(2) == 0) sort = 0;
                CHECKS.same("row(" + s + "," + sort + "," + n + ")", x.row(s, sort, n), y.row(s, sort, n));
                break;
            case 3: case 4: case 5:
                long big = upTo(3) == 0 ? random.nextLong() : v;
                CHECKS.same("put(" + s + "," + i + "," + big + ")", x.put(s, i, big), y.put(s, i, big));
                break;
            case 6: CHECKS.same("element(" + s + "," + i + ")", x.element(s, i), y.element(s, i)); break;
            case 7:
                int o = near(0, 5), j = near(0, 6), m = near(0, 7);
                if (upTo(2) == 0) o = s;
                CHECKS.same("shift(" + s + "," + i + "," + o + "," + j + "," + m + ")", x.shift(s, i, o, j, m), y.shift(s, i, o, j, m));
                break;
            case 8:
                int k = near(0, 6);
                CHECKS.same("taken(" + s + "," + k + ")", x.taken(s, k), y.taken(s, k));
                break;
            case 9: CHECKS.same("books(" + s + "," + i + ")", x.books(s, i), y.books(s, i)); break;
            case 10:
                int rule = near(0, 6), act = near(0, 3), arg = upTo(2) == 0 ? random.nextInt() : upTo(100);
                CHECKS.same("act(" + rule + "," + act + "," + arg + ")", x.act(rule, act, arg), y.act(rule, act, arg));
                CHECKS.same("count(5)", x.count(5), y.count(5));
                break;
            default:
                int t = near(0, 8);
                CHECKS.same("trace(" + t + ")", x.trace(t), y.trace(t));
        }
    }
}
