import java.lang.reflect.Method;

/** For each promise ordinary inputs, the edges that the document names, and wrong inputs; what is due was worked out by hand. */
public final class PromisesTest {
    private static final int BAD = -1, NOT = -2, FULL = -3, BIG = -4, STATE = -5, VOID = -2000000000;
    private static final int LEAST = Integer.MIN_VALUE, MOST = Integer.MAX_VALUE;
    private static final long NONE = Long.MIN_VALUE;
    private static final Checks C = new Checks();

    public static void main(String[] args) throws Exception {
        for (int n = 1; n <= 38; n++) {
            C.about("promise " + n);
            Method m = PromisesTest.class.getDeclaredMethod("promise" + n);
            m.invoke(null);
        }
        C.end();
    }

    private static void due(String what, long got, long want) {
        C.same(what, got, want);
    }

    private static int order(ChangeBowler x, String s) {
        return Hand.order(x, s);
    }

    private static int text(ChangeBowler x, int use, String s) {
        return Hand.text(x, use, s);
    }

    /** Two who bowl, 3 and 5 runs an over, EDGE 100; one batsman of SORT 0 and three overs. */
    private static ChangeBowler two() {
        ChangeBowler x = new ChangeBowler();
        x.bowler(2, 10, 3);
        x.bowler(2, 20, 5);
        order(x, "0:3");
        return x;
    }

    static void promise1() {
        ChangeBowler x = new ChangeBowler();
        due("the batsmen", x.of(0), 1);
        due("its SORT", x.of(10), 0);
        due("T", x.of(1), 8);
        due("R", x.of(2), 0);
        for (int i = 0; i <= 5; i++) due("count " + i, x.count(i), 0);
        due("the FIELD", x.set(0), 0);
        for (int i = 0; i <= 5; i++) due("shelf " + i, x.taken(i, 0), -11);
        due("best", x.best(0), 0);
        due("whom", x.best(1), NOT);
        due("games", x.led(-1, 0), 0);
        due("constants", ChangeBowler.BAD + ChangeBowler.NOT + ChangeBowler.FULL + ChangeBowler.BIG + ChangeBowler.STATE, -15);
        due("VOID", ChangeBowler.VOID, VOID);
    }

    static void promise2() {
        ChangeBowler x = new ChangeBowler();
        int[][] wrong = {{-1, 0, 0}, {9, 0, 0}, {0, -1, 0}, {0, 51, 0}, {0, 0, -1}, {0, 0, 21}, {LEAST, 0, 0}, {0, MOST, 0}};
        for (int[] w : wrong) due("bowler wrong", x.bowler(w[0], w[1], w[2]), BAD);
        due("none came", x.count(0), 0);
        due("first", x.bowler(0, 0, 0), 0);
        due("second", x.bowler(8, 50, 20), 1);
        due("third", x.bowler(1, 1, 1), 2);
        due("fourth", x.bowler(2, 2, 2), 3);
        due("fifth", x.bowler(2, 2, 2), FULL);
        due("BAD ahead of FULL", x.bowler(9, 2, 2), BAD);
        due("four", x.count(0), 4);
        due("EDGE at first", x.edge(13, 0, 100), 100);
        due("RUNS at first", x.edge(13, 1, 0), 0);
        due("OVERS", x.edge(10, 2, 8), 8);
        due("COST", x.over(100, 0, 1), 20);
        due("TIRES", x.over(101, 0, 0), 50);
    }

    static void promise3() {
        ChangeBowler x = two();
        due("EDGE was", x.edge(12, 0, 500), 100);
        due("EDGE is", x.edge(12, 0, 0), 500);
        due("the other's stays", x.edge(2, 0, 100), 100);
        due("another SORT's stays", x.edge(11, 0, 100), 100);
        due("RUNS was", x.edge(3, 1, -9), 0);
        due("RUNS is", x.edge(3, 1, 9), -9);
        due("OVERS was, any SORT", x.edge(19, 2, 8), 2);
        due("OVERS is", x.edge(10, 2, 0), 8);
        int[][] wrong = {{0, 0, -1}, {0, 0, 501}, {0, 1, -10}, {0, 1, 10}, {0, 2, -1}, {0, 2, 9}, {4, 0, 5}, {9, 1, 5}, {20, 0, 5},
            {20, 2, 5}, {-1, 0, 5}, {-1, 2, 5}, {0, -1, 5}, {0, 3, 5}, {LEAST, 0, 5}, {MOST, 2, 5}, {0, LEAST, 5}, {0, 0, MOST}};
        int had = x.count(4);
        for (int[] w : wrong) due("edge(" + w[0] + "," + w[1] + "," + w[2] + ")", x.edge(w[0], w[1], w[2]), VOID);
        due("nothing changed", x.count(4), had);
    }

    static void promise4() {
        ChangeBowler x = two();
        due("EDGE more was", x.field(0, 0, 200), 0);
        due("EDGE more is", x.field(0, 0, -200), 200);
        due("runs more was", x.field(33, 1, 9), 0);
        due("runs more is", x.field(33, 1, -9), 9);
        due("another stays", x.field(32, 1, 0), 0);
        int[][] wrong = {{0, 0, 201}, {0, 0, -201}, {0, 1, 10}, {0, 1, -10}, {4, 0, 0}, {40, 0, 0}, {-1, 0, 0}, {0, 2, 0}, {0, -1, 0},
            {LEAST, 0, 0}, {MOST, 1, 0}, {0, 0, LEAST}};
        for (int[] w : wrong) due("field(" + w[0] + "," + w[1] + "," + w[2] + ")", x.field(w[0], w[1], w[2]), VOID);
        due("OUT is held at 0", x.over(0, 0, 0), 0);
    }

    static void promise5() {
        ChangeBowler x = two();
        x.field(20, 0, 50);
        x.field(20, 1, 4);
        due("OUT", x.over(0, 0, 0), 100);
        due("set", x.set(2), 0);
        due("OUT in it", x.over(0, 0, 0), 150);
        due("RUNS in it", x.over(0, 0, 1), 7);
        due("set again", x.set(3), 2);
        for (int f : new int[] {-1, 4, LEAST, MOST}) due("set(" + f + ")", x.set(f), BAD);
        due("it stays", x.set(0), 3);
    }

    static void promise6() {
        ChangeBowler x = new ChangeBowler();
        for (int n : new int[] {0, -1, 5, LEAST, MOST}) due("feed(" + n + ")", x.feed(n, 48), BAD);
        due("the lowest first", x.feed(3, '0' | ':' << 8 | '7' << 16 | '9' << 24), 3);
        due("it was read so", x.order(), 1);
        due("T", x.of(1), 7);
        for (int i = 1; i <= 19; i++) due("feed", x.feed(4, 0x30303030), 4 * i);
        due("feed to 79", x.feed(3, 0), 79);
        due("too many", x.feed(2, 0), FULL);
        due("it stays", x.count(2), 79);
        due("BAD ahead of FULL", x.feed(5, 0), BAD);
        due("the last", x.feed(1, 0), 80);
        due("full", x.feed(1, 0), FULL);
        due("a fault", x.order(), -108);
        due("a byte above 127", x.feed(4, -1), 4);
        due("is none of an order", x.order(), -100);
    }

    static void promise7() {
        ChangeBowler x = two();
        String[] right = {"0", "01230123", "3:1", "3:12", "3:01", "3:09r0", "2r999", "2r007", "12:8r50"};
        int[][] is = {{1, 8, 0}, {8, 8, 0}, {1, 1, 0}, {1, 12, 0}, {1, 1, 0}, {1, 9, 0}, {1, 8, 999}, {1, 8, 7}, {2, 8, 50}};
        for (int i = 0; i < right.length; i++) {
            due(right[i], order(x, right[i]), is[i][0]);
            due("T of " + right[i], x.of(1), is[i][1]);
            due("R of " + right[i], x.of(2), is[i][2]);
            due("THE TAPE", x.count(2), 0);
        }
        x.book(0, 0);
        String[] wrong = {"", "4", "01x", "012301230", "0:", "0:0", "0:00", "0:13", "0:99", "0:123", "0:133", "0:13r5", "0:0r5", "0:x",
            "0:8x", "0r", "0rx", "0r1000", "0r5:8", "0:8r", ":8", "r5", "0 ", " 0", "0:8r5r5", "0:0x"};
        int[] fault = {0, 0, 2, 8, 2, 2, 2, 2, 2, 4, 2, 2, 2, 2, 3, 2, 2, 5, 3, 4, 0, 0, 1, 0, 5, 2};
        for (int i = 0; i < wrong.length; i++) {
            due("'" + wrong[i] + "'", order(x, wrong[i]), -100 - fault[i]);
            due("THE TAPE", x.count(2), 0);
        }
        due("THE BOOK stays", x.count(3), 1);
        due("THE ORDER stays", x.of(2), 50);
        due("a new one", order(x, "0"), 1);
        due("THE BOOK is empty", x.count(3), 0);
    }

    static void promise8() {
        ChangeBowler x = two();
        x.feed(1, 'o');
        for (int use : new int[] {-1, 2, LEAST, MOST}) due("text(" + use + ")", x.text(use), BAD);
        due("THE TAPE stays", x.count(2), 1);
        due("text", x.text(1), 1);
        due("THE TAPE", x.count(2), 0);
        due("it counts", x.over(0, 70, 0), 107);
        String[] wrong = {"", "x", "o?", "o?o?o", ";", "o;", "o<w<s", "o=w>s", "12345", "(o", "(o?o)", "o)", "()", "!!!!!!!o", "((((((-o))))))",
            "(((-(!(o", "o+", "o*/w", "oo", "1o", "o1", "-", "o;o?1;!", "o ", "(o<w)<s<t", "(((((((o)))))))", "o<w|s<t<b", "o!w", "\u00ff"};
        int[] fault = {0, 0, 2, 3, 0, 2, 3, 3, 4, 2, 2, 1, 1, 6, 6, 6, 2, 2, 1, 1, 1, 1, 7, 1, 7, 6, 7, 1, 0};
        for (int i = 0; i < wrong.length; i++) {
            due("'" + wrong[i] + "'", text(x, 1, wrong[i]), -100 - fault[i]);
            due("THE TAPE", x.count(2), 0);
        }
        due("the one ahead stays", x.over(0, 70, 0), 107);
        values(x);
    }

    /** The ball's TEXT on 100 of EDGE; o is 3, w is 2, s is 1, b is 1, t is 0, l is 2. */
    private static void values(ChangeBowler x) {
        Object[][] all = {
            {"7", 7}, {"0007", 7}, {"o", 3}, {"w", 2}, {"s", 1}, {"b", 1}, {"t", 0}, {"l", 2}, {"p", 0}, {"k", 0}, {"p|k", 0},
            {"1+2*3", 7}, {"9-2-3", 4}, {"7/2*2", 6}, {"-7/2+20", 17}, {"-7%4+20", 17}, {"7%4", 3}, {"5/0", 0}, {"5%0", 0}, {"(1+2)*3", 9},
            {"-(-9)", 9}, {"9--9", 18}, {"!5", 0}, {"!0", 1}, {"!!7", 1}, {"!o+1", 1}, {"-o+5", 2}, {"4|0", 1}, {"0|0", 0}, {"4&2", 1}, {"4&0", 0},
            {"2<3", 1}, {"3<3", 0}, {"3=3", 1}, {"4=3", 0}, {"4>3", 1}, {"3>3", 0}, {"1|0&0", 1}, {"2<1+2", 1}, {"(2<1)+2", 2}, {"1<2|7>9", 1},
            {"0?9", 0}, {"1?9", 9}, {"0?9;8", 8}, {"0?9;0?8", 0}, {"5;6", 5}, {"o<3?1;o=3?2;3", 2}, {"-5?4;9", 4}, {"1?0;9", 0},
            {"((((((7))))))", 7}, {"!!!!!!7", 1}, {"------7", 7}, {"(7)+((((((1))))))", 8},
            {"9999*9999*9999", -100}, {"-(9999*9999*9999)", 900}, {"9999", 900}, {"-9999", -100}, {"-100", -100}, {"900", 900}
        };
        for (Object[] one : all) {
            due((String) one[0], text(x, 1, (String) one[0]), 1);
            due("what '" + one[0] + "' gives", x.over(110, 32, 0), 100 + (Integer) one[1]);
        }
        // 46341 * 46341 wraps below 0; 2147483647 and 100 wrap below 0 as well
        text(x, 1, "9999*4+6345");
        due("held at 1000", x.over(110, 32, 0), 1000);
        text(x, 1, "(9999*4+6345)*(9999*4+6345)");
        due("ints wrap", x.over(110, 32, 0), 0);
        text(x, 1, "8192*8192*32-1");
        due("the sum wraps", x.over(110, 32, 0), 0);
    }

    static void promise9() {
        ChangeBowler x = new ChangeBowler();
        order(x, "3120:11r77");
        due("how many", x.of(0), 4);
        due("T", x.of(1), 11);
        due("R", x.of(2), 77);
        int[] sorts = {3, 1, 2, 0};
        for (int i = 0; i < 4; i++) due("SORT", x.of(10 + i), sorts[i]);
        for (int w : new int[] {-1, 3, 9, 14, 18, LEAST, MOST}) due("of(" + w + ")", x.of(w), BAD);
    }

    static void promise10() {
        ChangeBowler x = two();
        x.edge(12, 0, 333);
        x.edge(12, 1, 4);
        due("fresh", x.over(120, 0, 0), 333);
        due("tired: 333 * 80 / 100", x.over(121, 0, 0), 266);
        due("333 * 40 / 100", x.over(123, 0, 0), 133);
        due("RUNS: 5 + 4 + 3", x.over(123, 0, 1), 12);
        x.field(2, 0, -200);
        x.edge(12, 0, 101);
        due("-99 is held at 0", x.over(120, 0, 0), 0);
        text(x, 1, "100");
        due("-99 * 80 / 100 is -79, then 100", x.over(121, 0, 0), 21);
        text(x, 1, "o*10+w+l*100+s*1000-2000");
        due("o, w, OVERS left, s", x.over(120, 98, 0), 199);
        due("o 12, w 8", x.over(120, 128, 0), 229);
        x.field(2, 1, -9);
        x.edge(12, 1, -9);
        due("RUNS are 0 at least", x.over(123, 0, 1), 0);
        x.bowler(1, 50, 0);
        text(x, 1, "0");
        due("TIRES 50: 0 at least", x.over(203, 0, 0), 0);
        due("2 STEPS: nothing", x.over(202, 0, 0), 0);
        int[][] wrong = {{-1, 0, 0}, {300, 0, 0}, {40, 0, 0}, {4, 0, 0}, {0, -1, 0}, {0, 9, 0}, {0, 130, 0}, {0, 129, 0}, {0, 0, 2}, {0, 0, -1},
            {LEAST, 0, 0}, {MOST, 0, 0}, {0, LEAST, 0}, {0, MOST, 0}, {0, 0, LEAST}};
        for (int[] w : wrong) due("over(" + w[0] + "," + w[1] + "," + w[2] + ")", x.over(w[0], w[1], w[2]), BAD);
    }

    static void promise11() {
        ChangeBowler x = two();
        int[][] wrong = {{-1, 0, 0}, {7, 0, 0}, {0, 5, 0}, {0, 102, 0}, {0, 10, 0}, {0, -1, 0}, {0, 111111111, 0}, {0, 0, -1}, {0, 0, 13}, {LEAST, 0, 0},
            {0, LEAST, 0}, {0, MOST, 0}, {0, 0, MOST}};
        for (int[] w : wrong) due("rule(" + w[0] + "," + w[1] + "," + w[2] + ")", x.rule(w[0], w[1], w[2]), BAD);
        due("none came", x.count(1), 0);
        for (int i = 0; i < 20; i++) due("rule", x.rule(i % 7, i % 2 == 0 ? 0 : 44444444, i % 13), i);
        due("one more", x.rule(0, 0, 0), FULL);
        due("BAD ahead of FULL", x.rule(7, 0, 0), BAD);
        due("twenty", x.count(1), 20);
    }

    static void promise12() {
        ChangeBowler x = new ChangeBowler();
        x.bowler(3, 0, 6);
        x.bowler(3, 0, 4);
        x.bowler(3, 0, 4);
        x.edge(10, 0, 50);
        x.edge(21, 0, 200);
        order(x, "01:8");
        int least = x.rule(0, 0, 0), turn = x.rule(1, 3214, 0), best = x.rule(2, 0, 0), now = x.rule(3, 0, 0);
        int keep = x.rule(4, 31, 2), match = x.rule(5, 0, 0), told = x.rule(6, 0, 7), bare = x.rule(1, 0, 0), kept = x.rule(4, 1, 12);
        due("RULE", x.puts(least), 0);
        due("TURN: the ROW's first", x.puts(turn), 2);
        due("without a ROW the least", x.puts(bare), 0);
        due("NOW: the greater OUT of like RUNS", x.puts(now), 2);
        due("MATCH: of like ones the least", x.puts(match), 0);
        due("KEEP: not the ROW's first ahead of over 2", x.puts(keep), 0);
        due("TOLD without a TEXT", x.puts(told), 0);
        text(x, 0, "b=1?p+k;50");
        due("TOLD: 57 above 50", x.puts(told), 1);
        text(x, 0, "-b");
        due("TOLD: -b", x.puts(told), 0);
        text(x, 0, "b=0?0-1;t+l");
        due("TOLD: of like ones the least", x.puts(told), 1);
        x.book(0, 1);
        due("behind an over the least may not", x.puts(least), 1);
        due("TURN: the second", x.puts(turn), 1);
        due("MATCH: SORT 1 is in", x.puts(match), 2);
        due("KEEP: not yet", x.puts(keep), 1);
        x.book(1, 0);
        due("KEEP: over 2", x.puts(keep), 2);
        due("TURN: the third", x.puts(turn), 0);
        x.book(0, 0);
        due("TURN: BOWLER 3 is none, the least", x.puts(turn), 1);
        due("KEEP at place 1: it bowled last", x.puts(keep), 1);
        x.edge(10, 2, 1);
        x.edge(20, 2, 0);
        x.close();
        due("KEEP: the only other", x.puts(kept), 1);
        x.edge(10, 2, 0);
        due("KEEP: no other may", x.puts(kept), 0);
        x.edge(0, 2, 0);
        due("ENDED", x.puts(least), NOT);
        due("ENDED, BEST", x.puts(best), NOT);
        order(x, "0:9");
        due("BIG, ENDED or not", x.puts(best), BIG);
        due("not for others", x.puts(now), NOT);
        x.edge(0, 2, 3);
        x.edge(10, 2, 3);
        due("not for NOW", x.puts(now), 1);
        x.book(0, 0);
        due("8 are left", x.puts(best), 1);
        for (int r : new int[] {-1, 9, LEAST, MOST}) due("puts(" + r + ")", x.puts(r), BAD);
    }

    static void promise13() {
        ChangeBowler x = two();
        int least = x.rule(0, 0, 0), best = x.rule(2, 0, 0), turn = x.rule(1, 2, 0);
        // 3 ; 5 ; 3 overs: 3000 + 0.9 (5000 + 0.9 * 3000)
        due("by the least", x.mean(least), 3000 + (900 * (5000 + 2700)) / 1000);
        due("the best is as good", x.mean(best), 9930);
        due("turned: 5, 3, 5", x.mean(turn), 5000 + 900 * (3000 + 4500) / 1000);
        order(x, "0:3r100");
        // 5000 + 0.9 * (900 * 3000 / 1000) is 7430; 3000 + 0.9 * (0.9 * 7430 cut)
        due("rain", x.mean(least), 3000 + 900 * (900 * 7430 / 1000) / 1000);
        order(x, "0:8");
        due("nobody may any more: 3, 5, 3, 5", x.mean(least), 3000 + 900 * (5000 + 900 * (3000 + 4500) / 1000) / 1000);
        order(x, "0:9");
        due("T above 8", x.mean(least), BIG);
        due("BAD ahead of BIG", x.mean(3), BAD);
        for (int r : new int[] {-1, LEAST, MOST}) due("mean(" + r + ")", x.mean(r), BAD);
        due("none who bowls", nobody().mean(0), 0);
    }

    private static ChangeBowler nobody() {
        ChangeBowler x = new ChangeBowler();
        x.rule(0, 0, 0);
        return x;
    }

    static void promise14() {
        ChangeBowler x = two();
        int r = x.rule(0, 0, 0);
        // 3 if out at once (.1), 8 if out then (.09), else 11
        due("below 3", x.likely(r, 3), 0);
        due("below 4", x.likely(r, 4), 100000);
        due("below 8", x.likely(r, 8), 100000);
        due("below 9", x.likely(r, 9), 190000);
        due("below 11", x.likely(r, 11), 190000);
        due("below 12", x.likely(r, 12), 1000000);
        due("below 0", x.likely(r, 0), 0);
        order(x, "0:3r250");
        // ends with 3: .25 and .75 * .1
        due("rain, below 4", x.likely(r, 4), 325000);
        due("rain, below 9", x.likely(r, 9), 250000 + 750 * (100000 + 900 * 325000 / 1000) / 1000);
        for (int n : new int[] {-1, 1000, LEAST, MOST}) due("likely(" + n + ")", x.likely(r, n), BAD);
        for (int n : new int[] {-1, 1, LEAST, MOST}) due("likely of " + n, x.likely(n, 5), BAD);
        order(x, "0:9");
        due("BIG", x.likely(r, 5), BIG);
        due("BAD ahead of BIG", x.likely(r, 1000), BAD);
        due("ENDED, 1", nobody().likely(0, 1), 1000000);
        due("ENDED, 0", nobody().likely(0, 0), 0);
    }

    static void promise15() {
        ChangeBowler x = two();
        due("the MEAN", x.best(0), 9930);
        due("WHOM", x.best(1), 0);
        x.book(1, 0);
        due("the MEAN behind an over", x.best(0), 3000 + 4500);
        due("WHOM", x.best(1), 0);
        for (int w : new int[] {-1, 2, LEAST, MOST}) due("best(" + w + ")", x.best(w), BAD);
        x.book(0, 1);
        due("ENDED", x.best(0), 0);
        due("ENDED: WHOM", x.best(1), NOT);
        order(x, "00:12");
        due("BIG", x.best(0), BIG);
        due("BIG: WHOM", x.best(1), BIG);
        due("BAD ahead of BIG", x.best(2), BAD);
        for (int i = 0; i < 4; i++) x.book(i % 2, 0);
        due("ENDED, 8 left", x.best(1), NOT);
        due("a BIG one that is ENDED", bigEnded().best(0), BIG);
        wide();
    }

    private static ChangeBowler bigEnded() {
        ChangeBowler x = new ChangeBowler();
        order(x, "0:9");
        return x;
    }

    /** All who may bowl for all overs, a TEXT that tells OVERS left: as many STATES as there can be. */
    private static void wide() {
        ChangeBowler x = new ChangeBowler();
        Plain y = new Plain();
        for (int i = 0; i < 4; i++) {
            x.bowler(8, 30, 4 + i);
            y.bowler(8, 30, 4 + i);
        }
        for (char c : "0123012:8r9".toCharArray()) {
            x.feed(1, c);
            y.feed(1, c);
        }
        due("order", x.order(), y.order());
        for (char c : "o*7%5*l+(l%3)*w*9+b*(8-l)*30".toCharArray()) {
            x.feed(1, c);
            y.feed(1, c);
        }
        due("text", x.text(1), y.text(1));
        due("the MEAN, wide", x.best(0), y.best(0));
        due("WHOM, wide", x.best(1), y.best(1));
    }

    static void promise16() {
        ChangeBowler x = two();
        // without 0: one over of 1, 5000; without 1: one of 0, 3000
        due("WORTH of 0", x.worth(0, 0), 5000 - 9930);
        due("WORTH of 1", x.worth(1, 0), 3000 - 9930);
        order(x, "0:5");
        // 3, 5, 3, 5; with one over more of 0 not a fifth over of 3, but 5, 3, 5, 3, behind which nobody may bowl
        due("one over more of 0", x.worth(0, 1), 13575 - 13937);
        due("one over more of 1", x.worth(1, 1), 0);
        x.edge(0, 2, 8);
        x.edge(10, 2, 8);
        due("a ninth", x.worth(0, 1), 0);
        x.bowler(8, 0, 0);
        due("one without COST", x.worth(2, 0) > 0 ? 1 : 0, 1);
        for (int b : new int[] {-1, 3, LEAST, MOST}) due("worth(" + b + ")", x.worth(b, 0), VOID);
        for (int w : new int[] {-1, 2, LEAST, MOST}) due("worth of what " + w, x.worth(0, w), VOID);
        x.book(0, 1);
        due("from the beginning", x.worth(0, 1), 0);
        order(x, "0:9");
        due("BIG", x.worth(0, 0), VOID);
    }

    static void promise17() {
        ChangeBowler x = two();
        x.field(10, 1, -1);
        x.field(20, 1, -1);
        x.field(30, 0, 100);
        due("in FIELD 0", x.fielded(0, 0), 9930);
        // 2, 4, 2 overs
        due("in FIELD 1", x.fielded(1, 0), 2000 + 900 * (4000 + 1800) / 1000);
        due("in FIELD 3", x.fielded(3, 0), 3000 + 800 * (5000 + 2400) / 1000);
        due("SET: of like ones the least", x.fielded(MOST, 1), 1);
        x.book(0, 1);
        x.set(2);
        due("SET from the beginning, whichever is set", x.fielded(-1, 1), 1);
        due("what is set stays", x.set(0), 2);
        for (int f : new int[] {-1, 4, LEAST, MOST}) due("fielded(" + f + ")", x.fielded(f, 0), BAD);
        for (int w : new int[] {-1, 2, LEAST, MOST}) due("fielded of what " + w, x.fielded(0, w), BAD);
        order(x, "0:9");
        due("BIG", x.fielded(0, 0), BIG);
        due("BIG: SET", x.fielded(0, 1), BIG);
        due("BAD ahead of BIG", x.fielded(4, 0), BAD);
    }

    static void promise18() {
        ChangeBowler x = two();
        due("the cheap one begins", x.kept(0), 0);
        due("the other follows", x.kept(1), 1);
        x.bowler(1, 0, 20);
        due("never", x.kept(2), NOT);
        order(x, "0:5");
        // nobody else may bowl the fifth
        due("as late as may be", x.kept(2), 4);
        x.book(0, 0);
        due("from the beginning", x.kept(0), 0);
        for (int b : new int[] {-1, 3, LEAST, MOST}) due("kept(" + b + ")", x.kept(b), BAD);
        order(x, "0:9");
        due("BIG", x.kept(0), BIG);
        due("BAD ahead of BIG", x.kept(3), BAD);
        lateOne();
    }

    /** A third one who must come, as the others have one over each. */
    private static void lateOne() {
        ChangeBowler x = new ChangeBowler();
        x.bowler(1, 0, 9);
        x.bowler(1, 0, 1);
        x.bowler(1, 0, 5);
        order(x, "0:3");
        due("last", x.kept(0), 2);
        due("first", x.kept(1), 0);
        due("between", x.kept(2), 1);
    }

    static void promise19() {
        ChangeBowler x = new ChangeBowler();
        x.bowler(8, 0, 2);
        x.bowler(8, 0, 2);
        x.edge(0, 0, 500);
        x.edge(10, 0, 500);
        x.edge(1, 0, 0);
        x.edge(11, 0, 0);
        order(x, "10:2");
        // both bat out two overs whoever comes first
        due("of like ones the first as digits", x.theirs(0), 1);
        due("THE BEST then", x.theirs(1), 4000);
        x.edge(1, 1, 9);
        x.edge(11, 1, 9);
        due("the one who takes runs first", x.theirs(0), 10);
        due("then", x.theirs(1), 22000);
        order(x, "01010:3");
        due("five", x.theirs(0), 10001);
        due("THE ORDER stays", x.of(11), 1);
        x.book(0, 1);
        due("from the beginning", x.theirs(1), 33000);
        for (int w : new int[] {-1, 2, LEAST, MOST}) due("theirs(" + w + ")", x.theirs(w), BAD);
        order(x, "010101:2");
        due("six", x.theirs(0), BIG);
        order(x, "0:9");
        due("T above 8", x.theirs(1), BIG);
        due("BAD ahead of BIG", x.theirs(2), BAD);
        due("nobody bowls: the first as digits", turnedNobody(), 123);
        due("of 231, 312, 321 the first", turnedAlike(), 231);
    }

    /** Two overs, 3 runs each to SORTS 2 and 3, 2 to SORT 1: like ones are those where 1 does not come in. */
    private static int turnedAlike() {
        ChangeBowler x = new ChangeBowler();
        for (int b = 0; b < 2; b++) {
            x.bowler(8, 0, 3);
            x.edge(10 * b + 1, 1, -1);
            x.edge(10 * b + 1, 0, 500);
            x.edge(10 * b + 3, 0, 0);
        }
        order(x, "123:2");
        return x.theirs(0);
    }

    private static int turnedNobody() {
        ChangeBowler x = new ChangeBowler();
        order(x, "3210");
        return x.theirs(0);
    }

    static void promise20() {
        ChangeBowler x = two();
        due("nothing known", x.learn(0, 0), 500);
        due("5 overs, 1 out", x.learn(13, 501), 285);
        due("it is EDGE", x.over(130, 0, 0), 285);
        due("99 of 99 are held at 500", x.learn(13, 9999), 500);
        due("none of 99", x.learn(13, 9900), 9);
        due("it can be undone", x.undo(), 3);
        due("EDGE is 500 again", x.over(130, 0, 0), 500);
        int[][] wrong = {{13, 1}, {13, 506}, {13, 10000}, {13, -1}, {14, 0}, {20, 0}, {-1, 0}, {LEAST, 0}, {MOST, 0}, {0, LEAST}, {0, MOST}};
        for (int[] w : wrong) due("learn(" + w[0] + "," + w[1] + ")", x.learn(w[0], w[1]), BAD);
        due("nothing changed", x.count(4), 3);
        due("the same is no change", x.learn(0, 0), 500);
        due("so what was undone can be done again", x.redo(), 0);
    }

    static void promise21() {
        ChangeBowler x = two();
        int[][] wrong = {{-1, 0}, {2, 0}, {0, -1}, {0, 2}, {LEAST, 0}, {MOST, 0}, {0, LEAST}, {0, MOST}};
        for (int[] w : wrong) due("book(" + w[0] + "," + w[1] + ")", x.book(w[0], w[1]), BAD);
        due("the first", x.book(0, 0), 1);
        due("it bowled last", x.book(0, 0), STATE);
        due("the second", x.book(1, 0), 2);
        due("the third", x.book(0, 0), 3);
        due("T overs", x.book(1, 0), STATE);
        due("BAD ahead of STATE", x.book(2, 0), BAD);
        order(x, "00:12");
        due("out", x.book(0, 1), 1);
        due("all out", x.book(1, 1), 2);
        due("ENDED", x.book(0, 0), STATE);
        x.close();
        for (int i = 0; i < 4; i++) due("four", x.book(i % 2, 0), i + 1);
        due("no OVERS left", x.book(0, 0), STATE);
        x.edge(0, 2, 8);
        x.edge(10, 2, 8);
        for (int i = 4; i < 12; i++) due("twelve", x.book(i % 2, 0), i + 1);
        due("then it is ENDED", x.book(0, 0), STATE);
    }

    static void promise22() {
        ChangeBowler x = two();
        order(x, "00:12");
        x.book(0, 0);
        for (int s : new int[] {-1, 6, LEAST, MOST}) due("books(" + s + ")", x.books(s, 0), BAD);
        x.row(1, 1, 4);
        due("shorts", x.books(1, 0), -12);
        x.rule(0, 0, 0);
        x.keep(1, 0);
        due("a RULE", x.books(1, 0), -12);
        due("THE BOOK stays", x.count(3), 1);
        due("missing", x.books(0, 0), 0);
        due("THE BOOK is empty", x.count(3), 0);
        x.row(0, 0, 6);
        int[] bytes = {0, 11, 0, 1, 0, 1};
        for (int i = 0; i < 6; i++) x.put(0, i, bytes[i]);
        due("no OVERS left", x.books(0, 0), 4);
        due("one out", x.puts(0), NOT);
        due("from 2 on: the last may still", x.books(0, 2), 4);
        due("from the last on", x.books(0, 5), 1);
        due("behind it", x.books(0, 6), 0);
        due("far behind it", x.books(0, MOST), 0);
        due("below 0", x.books(0, -1), 0);
        due("far below 0", x.books(0, LEAST), 0);
        int[] odd = {20, 21, -1, 2, 12, 127, -128, 10 + 9, 100};
        for (int v : odd) {
            x.put(0, 2, v);
            due("up to " + v, x.books(0, 0), 2);
        }
        x.put(0, 2, 11);
        due("it bowled last", x.books(0, 0), 2);
        x.put(0, 2, 10);
        due("all out", x.books(0, 0), 3);
        x.row(0, 0, 0);
        due("an empty row", x.books(0, 0), 0);
    }

    static void promise23() {
        ChangeBowler x = two();
        due("empty", x.close(), 0);
        x.book(0, 0);
        x.book(1, 1);
        due("two", x.close(), 2);
        due("none", x.count(3), 0);
        due("from the beginning", x.book(1, 0), 1);
    }

    static void promise24() {
        ChangeBowler x = two();
        x.book(1, 0);
        x.book(0, 0);
        // 5, 3, 5 instead of 3, 5, 3
        due("the first", x.cost(0), 5000 + 900 * 7500 / 1000 - 9930);
        due("no other way", x.cost(1), 0);
        for (int i : new int[] {-1, 2, LEAST, MOST}) due("cost(" + i + ")", x.cost(i), VOID);
        x.edge(10, 2, 0);
        // it may not bowl any more: put on all the same, 5 and 0.9 * 3, less 3
        due("also where it may not", x.cost(0), 5000 + 2700 - 3000);
        x.edge(0, 2, 0);
        due("ENDED", x.cost(0), 0);
        x.undo();
        x.undo();
        text(x, 1, "l*100");
        x.edge(10, 2, 0);
        // OVERS left 0: OUT is 100 yet
        due("its OVERS left", x.cost(0), 5000 + 900 * 3000 / 1000 - 3000);
        order(x, "0:9");
        x.edge(0, 2, 8);
        x.edge(10, 2, 8);
        x.book(0, 0);
        x.book(1, 0);
        due("BIG", x.cost(0), VOID);
        due("8 are left", x.cost(1), 0);
    }

    static void promise25() {
        ChangeBowler x = two();
        due("an empty BOOK", x.lost(0), BAD);
        x.bowler(2, 0, 4);
        order(x, "0:4");
        x.book(1, 0);
        x.book(2, 0);
        x.book(1, 0);
        int a = x.cost(0), b = x.cost(1), c = x.cost(2);
        due("the first: 5, 3, 4, 3 instead of 3, 4, 3, 4", a, 5000 + 900 * (3000 + 900 * (4000 + 2700) / 1000) / 1000 - (3000 + 900 * (4000 + 900 * (3000 + 3600) / 1000) / 1000));
        due("the second: 4, 3, 4 instead of 3, 4, 3", b, 4000 + 900 * (3000 + 3600) / 1000 - (3000 + 900 * (4000 + 2700) / 1000));
        due("the third: 5, 3 instead of 3, 4", c, 5000 + 2700 - (3000 + 3600));
        due("the over", x.lost(0), 0);
        due("what it cost", x.lost(1), a);
        due("SUM", x.lost(2), a + b + c);
        for (int w : new int[] {-1, 3, LEAST, MOST}) due("lost(" + w + ")", x.lost(w), BAD);
        x.close();
        x.book(0, 0);
        x.book(2, 0);
        due("of like ones the first", x.lost(0), 0);
        due("nothing", x.lost(2), 0);
        x.close();
        x.book(0, 0);
        x.book(1, 0);
        due("the second: 5, 3, 4 instead of 4, 3, 4", x.lost(0), 1);
        due("what it cost", x.lost(1), 1000);
        order(x, "0:9");
        due("BAD ahead of BIG", x.lost(0), BAD);
        x.book(0, 0);
        due("BIG", x.lost(0), BIG);
    }

    static void promise26() {
        ChangeBowler x = two();
        int r = x.rule(0, 0, 0), t = x.rule(1, 2, 0);
        // SEED 0: 12345 >>> 8 is 48, below 100: out at once
        due("out at once", x.game(r, 0), 3);
        due("by another", x.game(t, 0), 5);
        x.edge(0, 0, 48);
        x.edge(10, 0, 0);
        due("48 is not below 48", x.game(r, 0), 11);
        order(x, "0:3r1");
        int z = 12345 * 1103515245 + 12345, lot = (z >>> 8) % 1000;
        order(x, "0:8r" + lot);
        due("no rain just above", x.game(r, 0) > 3 ? 1 : 0, 1);
        order(x, "0:8r" + (lot + 1));
        due("rain", x.game(r, 0), 3);
        due("one over", x.led(-1, 0), 1);
        for (int n : new int[] {-1, 2, LEAST, MOST}) due("game(" + n + ")", x.game(n, 0), BAD);
        order(x, "0:9");
        due("BIG", x.game(r, 0), BIG);
        due("the latest stays", x.led(-1, 0), 1);
        due("BAD ahead of BIG", x.game(2, 0), BAD);
        due("nobody", nobody().game(0, 7), 0);
        for (int seed : new int[] {LEAST, MOST, -1}) due("seed " + seed, two26(seed), 1);
        due("rain is drawn for without R, too: not out", secondOver(0), 11);
        due("out", secondOver(1), 8);
    }

    /** The second over's OUT is that much above its lot, the third that is drawn. */
    private static int secondOver(int above) {
        int z = 0;
        for (int i = 0; i < 3; i++) z = z * 1103515245 + 12345;
        ChangeBowler x = two();
        x.rule(0, 0, 0);
        x.edge(0, 0, 0);
        x.edge(10, 0, 0);
        text(x, 1, "b*" + ((z >>> 8) % 1000 + above));
        return x.game(0, 0);
    }

    private static int two26(int seed) {
        ChangeBowler x = two(), y = two();
        x.rule(2, 0, 0);
        y.rule(2, 0, 0);
        y.game(0, 5);
        return x.game(0, seed) == y.game(0, seed) ? 1 : 0;
    }

    static void promise27() {
        ChangeBowler x = two();
        due("none yet", x.led(-1, 0), 0);
        due("no over yet", x.led(0, 0), BAD);
        x.rule(0, 0, 0);
        x.edge(0, 0, 0);
        x.edge(10, 0, 500);
        order(x, "00:3");
        text(x, 1, "b*500");
        due("3, 5 and out, 3", x.game(0, 9), 11);
        int[][] is = {{0, 3, 0}, {1, 5, 1}, {0, 3, 0}};
        due("three", x.led(-1, 0), 3);
        for (int i = 0; i < 3; i++) {
            for (int w = 0; w < 3; w++) due("led(" + i + "," + w + ")", x.led(i, w), is[i][w]);
        }
        int[][] wrong = {{-1, 1}, {-1, 2}, {-2, 0}, {3, 0}, {0, 3}, {0, -1}, {LEAST, 0}, {MOST, 0}, {0, LEAST}, {-1, MOST}};
        for (int[] w : wrong) due("led(" + w[0] + "," + w[1] + ")", x.led(w[0], w[1]), BAD);
        order(x, "0");
        due("it stays", x.led(1, 1), 5);
    }

    static void promise28() {
        ChangeBowler x = two();
        due("none", x.undo(), STATE);
        x.edge(0, 0, 200);
        x.edge(0, 0, 200);
        x.edge(0, 1, 5);
        x.edge(0, 2, 7);
        x.field(0, 0, 10);
        x.field(0, 1, 1);
        x.set(1);
        x.set(0);
        due("telling the same is none", x.count(4), 5);
        due("RUNS", x.over(0, 0, 1), 9);
        due("FIELD's runs", x.undo(), 4);
        due("RUNS", x.over(0, 0, 1), 8);
        due("FIELD's EDGE", x.undo(), 3);
        due("OUT", x.over(0, 0, 0), 200);
        due("OVERS", x.undo(), 2);
        due("OVERS are 2", x.edge(0, 2, 2), 2);
        due("RUNS", x.undo(), 1);
        due("RUNS are", x.over(0, 0, 1), 3);
        due("EDGE", x.undo(), 0);
        due("EDGE is", x.over(0, 0, 0), 100);
        due("none is left", x.undo(), STATE);
        for (int i = 1; i <= 45; i++) x.edge(0, 0, i);
        due("40 are kept", x.count(4), 40);
        for (int i = 39; i >= 0; i--) due("undo", x.undo(), i);
        due("the oldest are gone", x.over(0, 0, 0), 5);
        due("none any more", x.undo(), STATE);
    }

    static void promise29() {
        ChangeBowler x = two();
        due("none", x.redo(), STATE);
        for (int i = 1; i <= 45; i++) x.edge(0, 0, i);
        for (int i = 0; i < 40; i++) x.undo();
        for (int i = 39; i >= 0; i--) due("redo", x.redo(), i);
        due("as it was", x.over(0, 0, 0), 45);
        due("all may be undone", x.count(4), 40);
        due("none is left", x.redo(), STATE);
        x.undo();
        x.undo();
        due("43", x.over(0, 0, 0), 43);
        x.edge(0, 0, 43);
        x.edge(0, 0, 501);
        due("no change came behind", x.redo(), 1);
        due("44", x.over(0, 0, 0), 44);
        x.field(0, 0, 1);
        due("another came behind", x.redo(), STATE);
        due("it can be undone", x.undo(), 38 + 1);
    }

    static void promise30() {
        ChangeBowler x = new ChangeBowler();
        for (int k = 0; k <= 6; k++) x.rule(k, 0, 0);
        // n is the KIND; puts, holds, gives, tells of 10
        int[][] is = {
            {10, 20, 10, 19},
            {14, 28, 11, 28},
            {12, 24, 24, 15},
            {13, -26, 27, -32},
            {18, 36, 14, (36 - 5) ^ 5},
            {15, -30, (10 ^ 5) * 3 - 7, -30 - ((1 ^ 5) * 3 - 7)},
            {16, 32 + 7, 12, 39 - 7}
        };
        for (int k = 0; k <= 6; k++) {
            for (int a = 0; a <= 3; a++) due("act(" + k + "," + a + ")", x.act(k, a, 10), is[k][a]);
        }
        due("ints wrap", x.act(1, 0, MOST), LEAST + 3);
        due("wrap twice", x.act(0, 1, MOST), -2);
        int[][] wrong = {{-1, 0}, {7, 0}, {0, -1}, {0, 4}, {LEAST, 0}, {MOST, 3}, {0, LEAST}, {0, MOST}};
        for (int[] w : wrong) {
            x.act(0, 3, 1);
            due("act(" + w[0] + "," + w[1] + ")", x.act(w[0], w[1], 9), 0);
            due("no TRACE", x.trace(0), BAD);
            due("none ran", x.count(5), 0);
        }
    }

    static void promise31() {
        ChangeBowler x = new ChangeBowler();
        due("none yet", x.trace(0), BAD);
        for (int k = 0; k <= 6; k++) x.rule(k, 0, 0);
        int[][] is = {{2, 10, 1, 11}, {2, 10, 20, 1, 11}, {2, 10, 1, 30, 11}, {2, 40, 10, 1, 30, 11}, {51, 2, 10, 50, 20, 1, 11},
            {2, 40, 10, 1, 60, 30, 11, 1}, {2, 70, 10, 1, 11, 11}};
        for (int k = 0; k <= 6; k++) {
            x.act(k, 3, 5);
            due("how many", x.count(5), is[k].length);
            for (int i = 0; i < is[k].length; i++) due("trace of " + k + " at " + i, x.trace(i), is[k][i]);
            for (int i : new int[] {-1, is[k].length, 24, LEAST, MOST}) due("trace(" + i + ")", x.trace(i), BAD);
        }
    }

    static void promise32() {
        ChangeBowler x = new ChangeBowler();
        x.rule(3, 0, 0);
        due("a RULE", x.keep(5, 0), 1);
        due("it is there", x.taken(5, 3), 3);
        int[][] wrong = {{-1, 0}, {6, 0}, {0, 1}, {0, -2}, {LEAST, 0}, {MOST, -1}, {0, LEAST}, {0, MOST}};
        for (int[] w : wrong) due("keep(" + w[0] + "," + w[1] + ")", x.keep(w[0], w[1]), BAD);
        due("nothing", x.keep(5, -1), 1);
        due("it is gone", x.taken(5, 3), -11);
        x.row(0, 0, 3);
        due("instead of a ROW", x.keep(0, 0), 1);
        due("no ROW any more", x.put(0, 0, 1), -12);
        due("nothing instead of a RULE", x.keep(0, -1), 1);
        due("nothing there", x.put(0, 0, 1), -11);
    }

    static void promise33() {
        ChangeBowler x = new ChangeBowler();
        x.rule(0, 0, 0);
        int[][] wrong = {{-1, 0, 0}, {6, 0, 0}, {0, -1, 0}, {0, 5, 0}, {0, 0, 61}, {0, 0, MOST}, {0, 5, -1}, {-1, 0, -1}, {LEAST, 0, 0}, {0, MOST, 0}};
        for (int[] w : wrong) due("row(" + w[0] + "," + w[1] + "," + w[2] + ")", x.row(w[0], w[1], w[2]), BAD);
        due("a size below 0", x.row(0, 0, -1), -14);
        due("far below", x.row(0, 4, LEAST), -14);
        due("nothing is there", x.element(0, 0), NONE);
        due("the longest", x.row(0, 3, 60), 1);
        due("0 at first", x.element(0, 59), 0);
        due("its end", x.element(0, 60), NONE);
        x.put(0, 59, 5);
        due("a new one", x.row(0, 3, 60), 1);
        due("0 at first again", x.element(0, 59), 0);
        due("none", x.row(0, 0, 0), 1);
        due("no element", x.put(0, 0, 1), -13);
        x.keep(1, 0);
        due("instead of a RULE", x.row(1, 4, 1), 1);
        due("no RULE any more", x.taken(1, 0), -12);
    }

    static void promise34() {
        ChangeBowler x = new ChangeBowler();
        x.rule(0, 0, 0);
        x.keep(1, 0);
        x.row(0, 2, 2);
        for (int s : new int[] {-1, 6, LEAST, MOST}) due("put(" + s + ")", x.put(s, 0, 1), BAD);
        due("nothing there", x.put(2, -1, 1), -11);
        due("a RULE", x.put(1, -1, 1), -12);
        for (int i : new int[] {-1, 2, LEAST, MOST}) due("place " + i, x.put(0, i, 1), -13);
        due("put", x.put(0, 1, 7), 1);
        due("it is there", x.element(0, 1), 7);
        due("the other stays", x.element(0, 0), 0);
        long v = 0x123456789ABCDEF0L;
        long[] is = {(byte) v, (short) v, (int) v, v, 1};
        for (int sort = 0; sort <= 4; sort++) {
            x.row(3, sort, 1);
            x.put(3, 0, v);
            due("lowest bits of sort " + sort, x.element(3, 0), is[sort]);
        }
        x.put(3, 0, 0);
        due("false", x.element(3, 0), 0);
        x.put(3, 0, 256);
        due("not 0 is true", x.element(3, 0), 1);
        x.row(3, 0, 1);
        x.put(3, 0, 128);
        due("with their sign", x.element(3, 0), -128);
    }

    static void promise35() {
        ChangeBowler x = new ChangeBowler();
        x.rule(0, 0, 0);
        x.keep(1, 0);
        x.row(0, 3, 2);
        x.put(0, 0, Long.MAX_VALUE);
        x.put(0, 1, Long.MIN_VALUE + 1);
        due("the greatest", x.element(0, 0), Long.MAX_VALUE);
        due("one of the least", x.element(0, 1), Long.MIN_VALUE + 1);
        int[][] wrong = {{-1, 0}, {6, 0}, {2, 0}, {1, 0}, {0, -1}, {0, 2}, {LEAST, 0}, {MOST, 0}, {0, LEAST}, {0, MOST}};
        for (int[] w : wrong) due("element(" + w[0] + "," + w[1] + ")", x.element(w[0], w[1]), NONE);
    }

    static void promise36() {
        ChangeBowler x = new ChangeBowler();
        x.rule(0, 0, 0);
        x.keep(4, 0);
        x.row(0, 0, 5);
        x.row(1, 0, 3);
        x.row(2, 1, 3);
        for (int i = 0; i < 5; i++) x.put(0, i, i + 1);
        due("to another", x.shift(0, 1, 1, 0, 3), 3);
        for (int i = 0; i < 3; i++) due("it has", x.element(1, i), i + 2);
        due("up within itself", x.shift(0, 0, 0, 1, 4), 4);
        int[] up = {1, 1, 2, 3, 4};
        for (int i = 0; i < 5; i++) due("as they were", x.element(0, i), up[i]);
        due("down within itself", x.shift(0, 2, 0, 0, 3), 3);
        int[] down = {2, 3, 4, 3, 4};
        for (int i = 0; i < 5; i++) due("as they were", x.element(0, i), down[i]);
        due("none, at both ends", x.shift(0, 5, 1, 3, 0), 0);
        int[][] place = {{0, -1, 1, 0, 1}, {0, 0, 1, -1, 1}, {0, 0, 1, 0, -1}, {0, 0, 1, 0, 4}, {0, 3, 1, 0, 3}, {0, 0, 1, 1, 3}, {0, 6, 1, 0, 0},
            {0, 0, 1, 4, 0}, {0, MOST, 1, 0, MOST}, {0, 1, 1, 0, MOST}, {0, LEAST, 1, 0, 1}, {0, 0, 1, MOST, 1}, {0, 0, 1, 0, LEAST}};
        for (int[] w : place) due("no place", x.shift(w[0], w[1], w[2], w[3], w[4]), -13);
        due("nothing there", x.shift(3, 0, 0, 0, 1), -11);
        due("nothing at the other", x.shift(0, 0, 3, 0, -1), -11);
        due("nothing ahead of a RULE", x.shift(4, 0, 3, 0, 1), -11);
        due("a RULE", x.shift(4, 0, 0, 0, 1), -12);
        due("to a RULE", x.shift(0, 0, 4, 0, 1), -12);
        due("two RULES", x.shift(4, 0, 4, 0, 0), -12);
        due("unlike sorts", x.shift(0, 0, 2, 0, -1), -12);
        for (int s : new int[] {-1, 6, LEAST, MOST}) {
            due("no SHELF", x.shift(s, 0, 3, 0, 1), BAD);
            due("no other SHELF", x.shift(3, 0, s, 0, 1), BAD);
        }
        for (int i = 0; i < 5; i++) due("nothing changed", x.element(0, i), down[i]);
    }

    static void promise37() {
        ChangeBowler x = new ChangeBowler();
        for (int k = 0; k <= 6; k++) x.rule(k, 0, 0);
        String[] above = {"0", "01", "02", "023", "014", "0235", "06"};
        for (int k = 0; k <= 6; k++) {
            x.keep(2, k);
            for (int t = 0; t <= 6; t++) due("KIND " + k + " for " + t, x.taken(2, t), above[k].indexOf('0' + t) >= 0 ? k : -12);
        }
        for (int s : new int[] {-1, 6, LEAST, MOST}) due("taken(" + s + ")", x.taken(s, 0), BAD);
        for (int k : new int[] {-1, 7, LEAST, MOST}) due("KIND " + k, x.taken(2, k), BAD);
        due("nothing", x.taken(3, 0), -11);
        x.row(3, 0, 1);
        due("a ROW", x.taken(3, 0), -12);
    }

    static void promise38() {
        ChangeBowler x = two();
        x.rule(3, 0, 0);
        x.rule(3, 0, 0);
        x.rule(5, 0, 0);
        x.feed(4, 0);
        x.book(0, 0);
        x.book(1, 0);
        for (int i = 1; i < 8; i++) x.edge(0, 0, i);
        x.act(2, 3, 0);
        int[] is = {2, 3, 4, 2, 7, 8};
        for (int i = 0; i < is.length; i++) due("count(" + i + ")", x.count(i), is[i]);
        for (int i : new int[] {-1, 6, LEAST, MOST}) due("count(" + i + ")", x.count(i), BAD);
    }
}
