import java.util.ArrayList;
import java.util.List;

/** What is refused changes nothing, nor does a question: an object that heard one answers all else as its twin that did not. */
public final class RefusedTest extends Edges {
    private interface Scene {
        ChangeBowler made();
    }

    private interface Call {
        long on(ChangeBowler x);
    }

    /** Asks an object all of one side; it may be changed by that. */
    private interface View {
        void look(ChangeBowler x, List<Long> seen);
    }

    public static void main(String[] args) throws Exception {
        runAll(RefusedTest.class);
    }

    // ---- scenes

    private static void tell(ChangeBowler x, int bowlers) {
        for (int b = 0; b < bowlers; b++) x.bowler(6 - b, 10 * b, 4 - b);
        for (int i = 0; i < 12; i++) x.edge(i % bowlers * 10 + i % 4, i % 2, 3 + i % 5);
        for (int i = 0; i < 6; i++) x.field(i % 4 * 10 + i % 3, i % 2, i % 8 + 1);
        x.edge(10, 2, 7);
        x.set(1);
    }

    private static void hold(ChangeBowler x) {
        x.keep(0, 4);
        for (int sort = 0; sort <= 3; sort++) {
            x.row(sort + 1, sort, 5);
            for (int i = 0; i < 5; i++) x.put(sort + 1, i, i % 2);
        }
    }

    /** Room for all, something everywhere: a BOOK, a game, a TRACE, changes done and undone, bytes on THE TAPE. */
    private static ChangeBowler rich(String order, String overs) {
        ChangeBowler x = new ChangeBowler();
        tell(x, 3);
        order(x, "012:6r5");
        text(x, 0, "p-b*7+k");
        text(x, 1, "l*3+o");
        for (int k = 0; k <= 6; k++) x.rule(k, k % 2 == 0 ? 0 : 2131, k);
        x.game(1, 77);
        order(x, order);
        booked(x, overs);
        x.act(5, 3, 9);
        hold(x);
        x.undo();
        x.undo();
        Hand.feed(x, "b*5+1");
        return x;
    }

    private static ChangeBowler near() {
        return rich("01203:8r9", "0b1");
    }

    private static ChangeBowler far() {
        return rich("012:12", "0b");
    }

    private static ChangeBowler ended() {
        return rich("01:8", "ab");
    }

    private static ChangeBowler full() {
        ChangeBowler x = new ChangeBowler();
        tell(x, 4);
        for (int i = 0; i < 45; i++) x.edge(3, 0, 200 + i);
        for (int r = 0; r < 20; r++) x.rule(r % 7, 0, 0);
        order(x, "01230123:12");
        booked(x, "010203010203");
        hold(x);
        for (int i = 0; i < 20; i++) x.feed(4, i == 0 ? 0x302B3130 : 0x312B312B);
        return x;
    }

    // ---- views

    private static void counts(ChangeBowler x, List<Long> seen) {
        for (int i = 0; i <= 5; i++) seen.add((long) x.count(i));
        for (int i = 0; i <= 2; i++) seen.add((long) x.of(i));
        for (int i = 10; i <= 18; i++) seen.add((long) x.of(i));
        for (int i = -1; i <= 8; i++) {
            for (int what = 0; what <= 2; what++) seen.add((long) x.led(i, what));
        }
        for (int i = 0; i <= 8; i++) seen.add((long) x.trace(i));
    }

    private static void overs(ChangeBowler x, List<Long> seen) {
        for (int f = 0; f <= 3; f++) {
            seen.add((long) x.set(f));
            for (int b = 0; b <= 3; b++) {
                for (int s = 0; s <= 3; s++) {
                    seen.add((long) x.over(100 * b + 10 * s + 2, 31, 0));
                    seen.add((long) x.over(100 * b + 10 * s, 0, 1));
                }
            }
        }
    }

    private static void rules(ChangeBowler x, List<Long> seen) {
        for (int r = 0; r < 20; r++) {
            seen.add((long) x.puts(r));
            seen.add((long) x.mean(r));
            seen.add((long) x.likely(r, 20));
            seen.add((long) x.act(r, 3, 1000));
        }
    }

    private static void judged(ChangeBowler x, List<Long> seen) {
        for (int i = 0; i <= 12; i++) seen.add((long) x.cost(i));
        for (int what = 0; what <= 2; what++) seen.add((long) x.lost(what));
        for (int what = 0; what <= 1; what++) {
            seen.add((long) x.best(what));
            seen.add((long) x.theirs(what));
            for (int b = 0; b <= 3; b++) seen.add((long) x.worth(b, what));
            for (int f = 0; f <= 3; f++) seen.add((long) x.fielded(f, what));
        }
        for (int b = 0; b <= 3; b++) seen.add((long) x.kept(b));
        for (int b = 0; b <= 3; b++) seen.add((long) x.book(b, 1));
        seen.add((long) x.close());
    }

    private static void undone(ChangeBowler x, List<Long> seen) {
        for (int i = 0; i <= 41; i++) {
            seen.add((long) x.undo());
            seen.add((long) x.over(30, 0, 0));
        }
        overs(x, seen);
    }

    private static void doneAgain(ChangeBowler x, List<Long> seen) {
        for (int i = 0; i <= 3; i++) seen.add((long) x.redo());
        overs(x, seen);
        undone(x, seen);
    }

    private static void tapeAsText(ChangeBowler x, List<Long> seen) {
        seen.add((long) x.text(1));
        overs(x, seen);
    }

    private static void tapeAsOrder(ChangeBowler x, List<Long> seen) {
        seen.add((long) x.order());
        counts(x, seen);
        order(x, "0120:7");
        rules(x, seen);
    }

    private static void shelves(ChangeBowler x, List<Long> seen) {
        for (int s = 0; s <= 5; s++) {
            for (int k = 0; k <= 6; k++) seen.add((long) x.taken(s, k));
            for (int i = 0; i <= 6; i++) seen.add(x.element(s, i));
            seen.add((long) x.books(s, 0));
            for (int other = 0; other <= 5; other++) seen.add((long) x.shift(s, 0, other, 0, 1));
        }
    }

    private static final View[] VIEWS = {RefusedTest::counts, RefusedTest::overs, RefusedTest::rules, RefusedTest::judged, RefusedTest::undone,
        RefusedTest::doneAgain, RefusedTest::tapeAsText, RefusedTest::tapeAsOrder, RefusedTest::shelves};

    // ---- the twins

    private final Scene scene;
    private final List<List<Long>> untouched = new ArrayList<>();

    private RefusedTest(Scene scene) {
        this.scene = scene;
        for (View v : VIEWS) {
            List<Long> seen = new ArrayList<>();
            v.look(scene.made(), seen);
            untouched.add(seen);
        }
    }

    private RefusedTest asked(String name, Call call) {
        for (int i = 0; i < VIEWS.length; i++) {
            ChangeBowler x = scene.made();
            call.on(x);
            List<Long> seen = new ArrayList<>();
            VIEWS[i].look(x, seen);
            due(name + " changes nothing, view " + i, seen.equals(untouched.get(i)) ? 1 : 0, 1);
        }
        return this;
    }

    private RefusedTest refused(String name, long want, Call call) {
        due(name, call.on(scene.made()), want);
        return asked(name, call);
    }

    /** Each view must see what a call that is taken changes, else it would see nothing. */
    private RefusedTest taken(String name, Call call) {
        int views = 0;
        for (int i = 0; i < VIEWS.length; i++) {
            ChangeBowler x = scene.made();
            call.on(x);
            List<Long> seen = new ArrayList<>();
            VIEWS[i].look(x, seen);
            if (!seen.equals(untouched.get(i))) views++;
        }
        due(name + " is seen", views > 0 ? 1 : 0, 1);
        return this;
    }

    // ---- what is told

    @Says({"What is answered so changes nothing.", "Answers, of several the one the call names first"})
    static void toldRefused() {
        RefusedTest t = new RefusedTest(RefusedTest::near);
        t.refused("bowler, OVERS", BAD, x -> x.bowler(9, 0, 0)).refused("bowler, TIRES", BAD, x -> x.bowler(0, 51, 0));
        t.refused("bowler, COST", BAD, x -> x.bowler(0, 0, -1));
        t.refused("edge, EDGE", VOID, x -> x.edge(0, 0, 501)).refused("edge, below", VOID, x -> x.edge(0, 0, -1));
        t.refused("edge, RUNS", VOID, x -> x.edge(0, 1, 10)).refused("edge, OVERS", VOID, x -> x.edge(0, 2, 9));
        t.refused("edge, what", VOID, x -> x.edge(0, 3, 5)).refused("edge, SORT", VOID, x -> x.edge(4, 0, 5));
        t.refused("edge, BOWLER", VOID, x -> x.edge(30, 0, 5)).refused("edge, BOWLER's OVERS", VOID, x -> x.edge(30, 2, 5));
        t.refused("field, EDGE", VOID, x -> x.field(0, 0, 201)).refused("field, runs", VOID, x -> x.field(0, 1, -10));
        t.refused("field, what", VOID, x -> x.field(0, 2, 5)).refused("field, SORT", VOID, x -> x.field(4, 0, 5));
        t.refused("field, FIELD", VOID, x -> x.field(40, 0, 5)).refused("set", BAD, x -> x.set(4)).refused("set below", BAD, x -> x.set(-1));
        t.refused("feed, none", BAD, x -> x.feed(0, 48)).refused("feed, five", BAD, x -> x.feed(5, 48));
        t.refused("text, use", BAD, x -> x.text(2)).refused("text, below", BAD, x -> x.text(-1));
        t.refused("rule, KIND", BAD, x -> x.rule(7, 0, 0)).refused("rule, ROW", BAD, x -> x.rule(1, 15, 0));
        t.refused("rule, 0 in it", BAD, x -> x.rule(1, 101, 0)).refused("rule, k", BAD, x -> x.rule(0, 0, 13));
        t.refused("learn, nk", BAD, x -> x.learn(0, 10000)).refused("learn, k", BAD, x -> x.learn(0, 506));
        t.refused("learn, BOWLER", BAD, x -> x.learn(30, 0)).refused("learn, SORT", BAD, x -> x.learn(4, 0));
        t.asked("edge, the same", x -> x.edge(10, 2, 5)).asked("field, the same", x -> x.field(33, 0, 0)).asked("set, the same", x -> x.set(1));
        t.taken("bowler", x -> x.bowler(1, 0, 0)).taken("edge", x -> x.edge(0, 0, 499)).taken("field", x -> x.field(30, 1, 9)).taken("set", x -> x.set(2));
        t.taken("feed", x -> x.feed(1, 48)).taken("order", x -> x.order()).taken("text", x -> x.text(0)).taken("rule", x -> x.rule(0, 0, 0));
        t.taken("learn", x -> x.learn(0, 9900));
    }

    @Says("FULL (-3)")
    static void fullRefused() {
        RefusedTest t = new RefusedTest(RefusedTest::full);
        t.refused("bowler", FULL, x -> x.bowler(1, 0, 0)).refused("bowler, BAD first", BAD, x -> x.bowler(9, 0, 0));
        for (int n = 1; n <= 4; n++) {
            int m = n;
            t.refused("feed", FULL, x -> x.feed(m, 48));
        }
        t.refused("feed, BAD first", BAD, x -> x.feed(5, 48));
        t.refused("rule", FULL, x -> x.rule(0, 0, 0)).refused("rule, BAD first", BAD, x -> x.rule(0, 5, 0));
        t.refused("book", STATE, x -> x.book(0, 0)).refused("book, BAD first", BAD, x -> x.book(4, 0));
        t.refused("redo", STATE, x -> x.redo());
        t.taken("undo", x -> x.undo()).taken("edge", x -> x.edge(3, 0, 199)).taken("close", x -> x.close());
    }

    // ---- what is asked

    @Says("BAD (-1): no such number, or it is not as said")
    static void askedRefused() {
        RefusedTest t = new RefusedTest(RefusedTest::near);
        t.refused("of", BAD, x -> x.of(15)).refused("over", BAD, x -> x.over(300, 0, 0)).refused("over, ow", BAD, x -> x.over(0, 130, 0));
        t.refused("puts", BAD, x -> x.puts(7)).refused("mean", BAD, x -> x.mean(7)).refused("likely", BAD, x -> x.likely(0, 1000));
        t.refused("best", BAD, x -> x.best(2)).refused("worth", VOID, x -> x.worth(3, 0)).refused("worth, what", VOID, x -> x.worth(0, 2));
        t.refused("fielded", BAD, x -> x.fielded(4, 0)).refused("fielded, what", BAD, x -> x.fielded(0, 2)).refused("kept", BAD, x -> x.kept(3));
        t.refused("theirs", BAD, x -> x.theirs(2)).refused("cost", VOID, x -> x.cost(3)).refused("lost", BAD, x -> x.lost(3));
        t.refused("game", BAD, x -> x.game(7, 1)).refused("led", BAD, x -> x.led(6, 0)).refused("led, what", BAD, x -> x.led(-1, 1));
        t.refused("trace", BAD, x -> x.trace(8)).refused("count", BAD, x -> x.count(6));
        t.refused("book, BOWLER", BAD, x -> x.book(3, 0)).refused("book, out", BAD, x -> x.book(0, 2)).refused("book, last", STATE, x -> x.book(1, 0));
    }

    @Says("BIG (-4)")
    static void farRefused() {
        RefusedTest t = new RefusedTest(RefusedTest::far);
        t.refused("puts", BIG, x -> x.puts(2));
        for (int k = 0; k <= 6; k++) {
            int r = k;
            t.refused("mean", BIG, x -> x.mean(r)).refused("likely", BIG, x -> x.likely(r, 9)).refused("game", BIG, x -> x.game(r, 9));
        }
        t.refused("best", BIG, x -> x.best(0)).refused("WHOM", BIG, x -> x.best(1)).refused("worth", VOID, x -> x.worth(0, 0));
        t.refused("worth of an over", VOID, x -> x.worth(0, 1)).refused("fielded", BIG, x -> x.fielded(0, 0)).refused("SET", BIG, x -> x.fielded(9, 1));
        t.refused("kept", BIG, x -> x.kept(0)).refused("theirs", BIG, x -> x.theirs(0)).refused("cost", VOID, x -> x.cost(1)).refused("lost", BIG, x -> x.lost(0));
    }

    @Says({"NOT (-2): as told", "STATE (-5): as told"})
    static void endedRefused() {
        RefusedTest t = new RefusedTest(RefusedTest::ended);
        for (int k = 0; k <= 6; k++) {
            int r = k;
            t.refused("puts", NOT, x -> x.puts(r));
        }
        t.refused("WHOM", NOT, x -> x.best(1)).refused("THE BEST is 0", 0, x -> x.best(0));
        for (int b = 0; b <= 2; b++) {
            int who = b;
            t.refused("book", STATE, x -> x.book(who, 0)).refused("book, out", STATE, x -> x.book(who, 1));
        }
        RefusedTest n = new RefusedTest(ChangeBowler::new);
        n.refused("undo", STATE, x -> x.undo()).refused("redo", STATE, x -> x.redo()).refused("book", BAD, x -> x.book(0, 0)).refused("lost", BAD, x -> x.lost(0));
        n.refused("led", BAD, x -> x.led(0, 0)).refused("trace", BAD, x -> x.trace(0)).refused("puts", BAD, x -> x.puts(0)).refused("kept", BAD, x -> x.kept(0));
        n.refused("close", 0, x -> x.close()).refused("order", -100, x -> x.order()).refused("text", -100, x -> x.text(0)).refused("text", -100, x -> x.text(1));
        n.refused("books of nothing", 0, x -> x.books(0, 0)).refused("act", 0, x -> x.act(0, 0, 1)).refused("keep nothing", 1, x -> x.keep(0, -1));
    }

    /** Such questions as try something out must lay it back. */
    @Says("THE BEST in it, set all along.")
    static void questionsChangeNothing() {
        RefusedTest t = new RefusedTest(RefusedTest::near);
        for (int w = 0; w <= 1; w++) {
            int what = w;
            t.asked("best", x -> x.best(what)).asked("worth", x -> x.worth(0, what)).asked("fielded", x -> x.fielded(3, what)).asked("theirs", x -> x.theirs(what));
            t.asked("over", x -> x.over(113, 42, what)).asked("led", x -> x.led(0, what)).asked("of", x -> x.of(what)).asked("lost", x -> x.lost(what));
        }
        for (int k = 0; k <= 6; k++) {
            int r = k;
            t.asked("puts", x -> x.puts(r)).asked("mean", x -> x.mean(r)).asked("likely", x -> x.likely(r, 20)).asked("taken", x -> x.taken(0, r));
        }
        for (int i = 0; i <= 2; i++) {
            int n = i;
            t.asked("cost", x -> x.cost(n)).asked("kept", x -> x.kept(n)).asked("trace", x -> x.trace(n)).asked("element", x -> x.element(1, n)).asked("count", x -> x.count(n));
        }
        t.asked("undo and redo", x -> x.undo() + x.redo()).asked("redo and undo", x -> x.redo() + x.undo());
        t.asked("a FAULT leaves THE ORDER and THE BOOK", x -> wrongOrder(x)).asked("a FAULT leaves the TEXT ahead", x -> wrongText(x));
        t.taken("game", x -> x.game(0, 5)).taken("act", x -> x.act(0, 0, 1)).taken("no such act: no TRACE", x -> x.act(7, 0, 1));
        t.taken("undo", x -> x.undo()).taken("redo", x -> x.redo()).taken("book", x -> x.book(0, 0)).taken("close", x -> x.close());
    }

    /** THE TAPE is emptied by a FAULT, so it is fed again. */
    private static long wrongOrder(ChangeBowler x) {
        int fault = x.order();
        Hand.feed(x, "b*5+1");
        return fault;
    }

    private static long wrongText(ChangeBowler x) {
        long sum = 0;
        for (int use = 0; use <= 1; use++) {
            x.feed(1, '+');
            sum += x.text(use);
        }
        Hand.feed(x, "b*5+1");
        return sum;
    }

    // ---- shelves

    @Says("-11 nothing is there where something is wanted; -12 it is of another kind; -13 a place that is not there; -14 a size below 0.")
    static void shelvesRefused() {
        RefusedTest t = new RefusedTest(RefusedTest::near);
        t.refused("keep, SHELF", BAD, x -> x.keep(6, 0)).refused("keep, RULE", BAD, x -> x.keep(0, 7)).refused("keep, below", BAD, x -> x.keep(0, -2));
        t.refused("row, SHELF", BAD, x -> x.row(6, 0, 1)).refused("row, sort", BAD, x -> x.row(1, 5, 1)).refused("row, n", BAD, x -> x.row(1, 0, 61));
        t.refused("row, below", -14, x -> x.row(1, 0, -1)).refused("put, SHELF", BAD, x -> x.put(6, 0, 1)).refused("put, nothing", -11, x -> x.put(5, 0, 1));
        t.refused("put, a RULE", -12, x -> x.put(0, 0, 1)).refused("put, place", -13, x -> x.put(1, 5, 1)).refused("put, below", -13, x -> x.put(1, -1, 1));
        t.refused("element, SHELF", NONE, x -> x.element(6, 0)).refused("element, nothing", NONE, x -> x.element(5, 0));
        t.refused("element, a RULE", NONE, x -> x.element(0, 0)).refused("element, place", NONE, x -> x.element(1, 5));
        t.refused("shift, SHELF", BAD, x -> x.shift(6, 0, 1, 0, 1)).refused("shift, other", BAD, x -> x.shift(1, 0, 6, 0, 1));
        t.refused("shift, nothing", -11, x -> x.shift(5, 0, 1, 0, 1)).refused("shift to nothing", -11, x -> x.shift(1, 0, 5, 0, 1));
        t.refused("shift, a RULE", -12, x -> x.shift(0, 0, 1, 0, 1)).refused("shift, unlike", -12, x -> x.shift(1, 0, 2, 0, 1));
        t.refused("shift, end", -13, x -> x.shift(1, 0, 1, 1, 5)).refused("shift, from", -13, x -> x.shift(1, 1, 1, 0, 5));
        t.refused("shift, below", -13, x -> x.shift(1, 1, 1, 0, -1)).refused("taken, SHELF", BAD, x -> x.taken(6, 0)).refused("taken, KIND", BAD, x -> x.taken(0, 7));
        t.refused("taken, nothing", -11, x -> x.taken(5, 0)).refused("taken, other", -12, x -> x.taken(0, 2)).refused("taken, a ROW", -12, x -> x.taken(1, 0));
        t.refused("books, SHELF", BAD, x -> x.books(6, 0)).refused("books, a RULE", -12, x -> x.books(0, 0)).refused("books, shorts", -12, x -> x.books(2, 0));
        t.refused("books, ints below", -12, x -> x.books(3, -1)).refused("books, longs behind", -12, x -> x.books(4, 99));
        t.refused("shift of none", 0, x -> x.shift(1, 5, 1, 5, 0)).refused("shift to itself", 5, x -> x.shift(1, 0, 1, 0, 5));
        t.refused("put, the same", 1, x -> x.put(1, 1, 257));
        t.taken("keep", x -> x.keep(0, 5)).taken("keep nothing", x -> x.keep(1, -1)).taken("row", x -> x.row(5, 0, 0)).taken("a ROW anew", x -> x.row(1, 0, 5));
        t.taken("put", x -> x.put(1, 0, 1)).taken("shift", x -> x.shift(1, 0, 1, 1, 2)).taken("books", x -> x.books(1, 0)).taken("books of nothing", x -> x.books(5, 0));
    }
}
