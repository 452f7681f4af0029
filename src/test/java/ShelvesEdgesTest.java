/** Section 5 of the document and promises 30 to 38, sentence by sentence. */
public final class ShelvesEdgesTest extends Edges {
    private static final int BYTES = 0, SHORTS = 1, INTS = 2, LONGS = 3, BOOLEANS = 4;

    public static void main(String[] args) throws Exception {
        runAll(ShelvesEdgesTest.class);
    }

    // ---- acts

    private static int putsOf(int kind, int n, int x) {
        return kind == 1 ? x + n + 3 : kind == 4 ? x + 1 + n + 3 : x + n;
    }

    private static int givesOf(int kind, int n, int x) {
        int v = x ^ n;
        if (kind == 2 || kind == 3) return v * 3;
        return kind == 5 ? v * 3 - (2 + n) : v;
    }

    private static int holdsOf(int kind, int n, int x) {
        int v = putsOf(kind, n, x) * 2;
        if (kind == 3 || kind == 5) return -v;
        return kind == 6 ? v + (1 ^ n) : v;
    }

    private static int tellsOf(int kind, int n, int x) {
        int v = holdsOf(kind, n, x) - givesOf(kind, n, 1);
        return kind == 4 ? v ^ 5 : v;
    }

    private static int actOf(int act, int kind, int n, int x) {
        switch (act) {
            case 0: return putsOf(kind, n, x);
            case 1: return holdsOf(kind, n, x);
            case 2: return givesOf(kind, n, x);
            default: return tellsOf(kind, n, x);
        }
    }

    @Says("ACTS of RULES with x (an int that wraps): 0 puts, 1 holds, 2 gives, 3 tells; n the RULE's number.")
    static void actsWrap() {
        for (int v : new int[] {LEAST, LEAST + 1, -1, 0, 1, 10, 1 << 30, MOST - 2, MOST - 1, MOST}) {
            ChangeBowler x = new ChangeBowler();
            for (int n = 0; n < 20; n++) {
                x.rule(n % 7, 0, 0);
                for (int act = 0; act <= 3; act++) due("act(" + n + "," + act + "," + v + ")", x.act(n, act, v), actOf(act, n % 7, n, v));
            }
        }
        ChangeBowler x = new ChangeBowler();
        x.rule(1, 0, 0);
        due("the greatest and 3", x.act(0, 0, MOST), LEAST + 2);
        due("twice the least", x.act(0, 1, LEAST - 3), 0);
    }

    @Says("An ACT (0 .. 3) of a RULE with x. 0, and no TRACE then: no such RULE, ACT.")
    static void noSuchAct() {
        int[][] wrong = {{-1, 0}, {1, 0}, {20, 0}, {LEAST, 0}, {MOST, 0}, {0, -1}, {0, 4}, {0, LEAST}, {0, MOST}, {-1, 4}};
        for (int[] w : wrong) {
            ChangeBowler x = new ChangeBowler();
            x.rule(1, 0, 0);
            x.act(0, 3, 5);
            due("five bodies", x.count(5), 5);
            due("act(" + w[0] + "," + w[1] + ",9)", x.act(w[0], w[1], 9), 0);
            due("no body", x.count(5), 0);
            for (int i = 0; i < 5; i++) due("no TRACE", x.trace(i), BAD);
        }
        due("no RULE at all", new ChangeBowler().act(0, 0, 9), 0);
    }

    private static final int[][][] TRACES = {
        {{1}, {20, 1}, {1}, {1}, {50, 20, 1}, {1}, {1}},
        {{10, 1}, {10, 20, 1}, {10, 1}, {40, 10, 1}, {10, 50, 20, 1}, {40, 10, 1}, {70, 10, 1, 11}},
        {{11}, {11}, {30, 11}, {30, 11}, {11}, {60, 30, 11, 1}, {11}},
        {{2, 10, 1, 11}, {2, 10, 20, 1, 11}, {2, 10, 1, 30, 11}, {2, 40, 10, 1, 30, 11}, {51, 2, 10, 50, 20, 1, 11}, {2, 40, 10, 1, 60, 30, 11, 1},
            {2, 70, 10, 1, 11, 11}}
    };

    @Says({"THE TRACE: numbers of the bodies that ran in the latest act(), as they began; the first 24 are kept.", "THE TRACE's i-th body. BAD."})
    static void traces() {
        ChangeBowler x = new ChangeBowler();
        due("no act yet", x.trace(0), BAD);
        for (int k = 0; k <= 6; k++) x.rule(k, 0, 0);
        for (int act = 0; act <= 3; act++) {
            for (int k = 0; k <= 6; k++) {
                int[] want = TRACES[act][k];
                x.act(k, act, 7);
                due("how many", x.count(5), want.length);
                for (int i = 0; i < want.length; i++) due("ACT " + act + " of KIND " + k + " at " + i, x.trace(i), want[i]);
                for (int i : new int[] {-1, want.length, 24, LEAST, MOST}) due("trace(" + i + ")", x.trace(i), BAD);
            }
        }
    }

    // ---- shelves

    @Says({"SHELVES 0 .. 5 each hold nothing (at first), a RULE, or a ROW", "A SHELF holds nothing (rule -1), or a RULE: 1. BAD."})
    static void keeping() {
        ChangeBowler x = new ChangeBowler();
        for (int s = 0; s <= 5; s++) {
            due("nothing at first", x.taken(s, 0), -11);
            due("no RULE yet", x.keep(s, 0), BAD);
        }
        x.rule(3, 0, 0);
        x.rule(6, 0, 0);
        for (int s = 0; s <= 5; s++) {
            due("keep(" + s + ",1)", x.keep(s, 1), 1);
            due("it is there", x.taken(s, 6), 6);
            for (int r : new int[] {-2, 2, 20, LEAST, MOST}) due("keep(" + s + "," + r + ")", x.keep(s, r), BAD);
            due("it stays", x.taken(s, 6), 6);
            due("another", x.keep(s, 0), 1);
            due("it is there", x.taken(s, 0), 3);
            due("nothing", x.keep(s, -1), 1);
            due("it is gone", x.taken(s, 0), -11);
            due("nothing again", x.keep(s, -1), 1);
        }
        for (int s : new int[] {-1, 6, LEAST, MOST}) {
            due("keep(" + s + ",0)", x.keep(s, 0), BAD);
            due("keep(" + s + ",-1)", x.keep(s, -1), BAD);
        }
        x.row(2, INTS, 4);
        due("nothing instead of a ROW", x.keep(2, -1), 1);
        due("no ROW", x.put(2, 0, 1), -11);
    }

    @Says({"of 0 bytes, 1 shorts, 2 ints, 3 longs, 4 booleans, of 0 .. 60 elements, 0 at first (false)", "A SHELF holds a ROW: 1. BAD (sort, n above 60); -14.",
        "-14 a size below 0"})
    static void rows() {
        for (int s = 0; s <= 5; s++) {
            for (int sort = 0; sort <= 4; sort++) {
                ChangeBowler x = new ChangeBowler();
                x.rule(0, 0, 0);
                x.keep(s, 0);
                for (int n : new int[] {-1, -60, LEAST}) due("row(" + s + "," + sort + "," + n + ")", x.row(s, sort, n), -14);
                for (int n : new int[] {61, 100, MOST}) due("row(" + s + "," + sort + "," + n + ")", x.row(s, sort, n), BAD);
                due("the RULE stays", x.taken(s, 0), 0);
                due("60", x.row(s, sort, 60), 1);
                due("no RULE", x.taken(s, 0), -12);
                for (int i = 0; i < 60; i++) due("0 at first", x.element(s, i), 0);
                for (int i = 0; i < 60; i++) x.put(s, i, 1);
                due("the last", x.element(s, 59), 1);
                due("not more", x.element(s, 60), NONE);
                due("BAD", x.row(s, sort, 61), BAD);
                due("-14", x.row(s, sort, -1), -14);
                due("it stays", x.element(s, 59), 1);
                due("another", x.row(s, sort, 60), 1);
                for (int i = 0; i < 60; i++) due("0 again", x.element(s, i), 0);
                due("none", x.row(s, sort, 0), 1);
                due("no element", x.element(s, 0), NONE);
                due("no place", x.put(s, 0, 1), -13);
                due("one", x.row(s, sort, 1), 1);
                due("no second", x.put(s, 1, 1), -13);
            }
        }
        ChangeBowler x = new ChangeBowler();
        for (int n : new int[] {-1, 0, 60, 61}) {
            for (int s : new int[] {-1, 6, LEAST, MOST}) due("row(" + s + ",0," + n + ")", x.row(s, 0, n), BAD);
            for (int sort : new int[] {-1, 5, LEAST, MOST}) due("row(0," + sort + "," + n + ")", x.row(0, sort, n), BAD);
        }
        due("nothing", x.put(0, 0, 1), -11);
    }

    private static void keeps(int sort, long... both) {
        ChangeBowler x = new ChangeBowler();
        x.row(4, sort, 3);
        for (int i = 0; i < both.length; i += 2) {
            due("put " + both[i] + " in sort " + sort, x.put(4, 1, both[i]), 1);
            due("it is", x.element(4, 1), both[i + 1]);
            due("ahead of it", x.element(4, 0), 0);
            due("behind it", x.element(4, 2), 0);
        }
    }

    @Says("what is put in keeps its lowest bits (with their sign; a boolean: whether it is not 0; 1 or 0)")
    static void lowestBits() {
        long most = Long.MAX_VALUE, least = Long.MIN_VALUE, high = 1L << 32;
        keeps(BYTES, 127, 127, 128, -128, 255, -1, 256, 0, -128, -128, -129, 127, -1, -1, most, -1, least, 0, 0x17F, 127);
        keeps(SHORTS, 32767, 32767, 32768, -32768, 65535, -1, 65536, 0, -32768, -32768, -32769, 32767, 128, 128, -1, -1, most, -1, least, 0);
        keeps(INTS, MOST, MOST, MOST + 1L, LEAST, high - 1, -1, high, 0, LEAST, LEAST, LEAST - 1L, MOST, 65536, 65536, -1, -1, most, -1, least, 0);
        keeps(LONGS, most, most, least + 1, least + 1, high, high, -1, -1, MOST + 1L, MOST + 1L, least, least, 0, 0);
        keeps(BOOLEANS, 1, 1, 0, 0, -1, 1, 0, 0, 2, 1, 256, 1, 0, 0, high, 1, least, 1, most, 1, 0, 0);
    }

    /** Nothing on 0, a RULE on 1, a ROW of two ints on 2. */
    private static ChangeBowler three() {
        ChangeBowler x = new ChangeBowler();
        x.rule(0, 0, 0);
        x.keep(1, 0);
        x.row(2, INTS, 2);
        x.put(2, 0, 70);
        x.put(2, 1, 71);
        return x;
    }

    @Says({"Element i of a ROW becomes v: 1. BAD, -11, -12, -13.", "Element i of a ROW; Long.MIN_VALUE: BAD, -11 to -13.",
        "The host's REFUSALS: -11 nothing is there where something is wanted; -12 it is of another kind; -13 a place that is not there"})
    static void puttingRefused() {
        ChangeBowler x = three();
        for (int i : new int[] {0, 1, -1, 2, 60, LEAST, MOST}) {
            for (int s : new int[] {-1, 6, LEAST, MOST}) {
                due("put(" + s + "," + i + ")", x.put(s, i, 5), BAD);
                due("element(" + s + "," + i + ")", x.element(s, i), NONE);
            }
            due("nothing there", x.put(0, i, 5), -11);
            due("nothing there", x.element(0, i), NONE);
            due("a RULE", x.put(1, i, 5), -12);
            due("a RULE", x.element(1, i), NONE);
            boolean is = i == 0 || i == 1;
            if (!is) due("no place " + i, x.put(2, i, 5), -13);
            due("place " + i, x.element(2, i), is ? 70 + i : NONE);
        }
        due("the last place", x.put(2, 1, 9), 1);
        due("it is", x.element(2, 1), 9);
        due("the other stays", x.element(2, 0), 70);
    }

    // ---- shift

    private static ChangeBowler numbered(int sort, int first, int second) {
        ChangeBowler x = new ChangeBowler();
        x.row(0, sort, first);
        x.row(5, sort, second);
        for (int i = 0; i < first; i++) x.put(0, i, i + 1);
        return x;
    }

    private static void holds(ChangeBowler x, int shelf, int... want) {
        for (int i = 0; i < want.length; i++) due("element " + i + " of " + shelf, x.element(shelf, i), want[i]);
        due("its end", x.element(shelf, want.length), NONE);
    }

    @Says("n elements of a ROW from i on come to another one (or the same) from j on, as they all were before: n.")
    static void shifting() {
        for (int sort = BYTES; sort <= LONGS; sort++) {
            ChangeBowler x = numbered(sort, 5, 3);
            due("three to the other", x.shift(0, 2, 5, 0, 3), 3);
            holds(x, 5, 3, 4, 5);
            due("one to its end", x.shift(0, 0, 5, 2, 1), 1);
            holds(x, 5, 3, 4, 1);
            due("up within itself", x.shift(0, 0, 0, 1, 4), 4);
            holds(x, 0, 1, 1, 2, 3, 4);
            due("down within itself", x.shift(0, 1, 0, 0, 4), 4);
            holds(x, 0, 1, 2, 3, 4, 4);
            due("all to where they are", x.shift(0, 0, 0, 0, 5), 5);
            holds(x, 0, 1, 2, 3, 4, 4);
            due("none", x.shift(0, 0, 5, 0, 0), 0);
            due("none from its end on", x.shift(0, 5, 5, 3, 0), 0);
            holds(x, 5, 3, 4, 1);
        }
        ChangeBowler x = numbered(BOOLEANS, 3, 3);
        due("booleans", x.shift(0, 1, 5, 0, 2), 2);
        holds(x, 5, 1, 1, 0);
        x = numbered(LONGS, 60, 60);
        due("all sixty", x.shift(0, 0, 5, 0, 60), 60);
        due("the last", x.element(5, 59), 60);
        x = numbered(LONGS, 0, 0);
        due("of none none", x.shift(0, 0, 5, 0, 0), 0);
        due("and no one", x.shift(0, 0, 5, 0, 1), -13);
    }

    @Says("BAD, -11 (either), -12 (no ROWS, or of unlike sorts), -13 (n below 0, too).")
    static void shiftingRefused() {
        ChangeBowler x = numbered(INTS, 5, 3);
        int[][] place = {{-1, 0, 1}, {0, -1, 1}, {0, 0, -1}, {0, 0, 4}, {3, 0, 3}, {0, 1, 3}, {5, 0, 1}, {0, 3, 1}, {6, 0, 0}, {0, 4, 0}, {-1, 0, 0}, {0, -1, 0},
            {MOST, 0, 1}, {0, MOST, 1}, {1, 0, MOST}, {0, 1, MOST}, {MOST, 0, MOST}, {0, MOST, MOST}, {LEAST, 0, 1}, {0, LEAST, 1}, {0, 0, LEAST},
            {MOST, MOST, LEAST}, {LEAST, LEAST, LEAST}, {0, 0, 61}};
        for (int[] p : place) due("shift(0," + p[0] + ",5," + p[1] + "," + p[2] + ")", x.shift(0, p[0], 5, p[1], p[2]), -13);
        holds(x, 0, 1, 2, 3, 4, 5);
        holds(x, 5, 0, 0, 0);
        x.rule(0, 0, 0);
        x.keep(1, 0);
        for (int n : new int[] {1, 0, -1, LEAST, MOST}) {
            for (int s : new int[] {-1, 6, LEAST, MOST}) {
                for (int other : new int[] {0, 1, 2}) {
                    due("no SHELF " + s, x.shift(s, 0, other, 0, n), BAD);
                    due("no other SHELF " + s, x.shift(other, 0, s, 0, n), BAD);
                }
            }
            for (int other : new int[] {0, 1, 2}) {
                due("nothing there", x.shift(2, 0, other, 0, n), -11);
                due("nothing at the other", x.shift(other, 0, 2, 0, n), -11);
            }
            due("a RULE", x.shift(1, 0, 0, 0, n), -12);
            due("to a RULE", x.shift(0, 0, 1, 0, n), -12);
            due("a RULE to itself", x.shift(1, 0, 1, 0, n), -12);
            for (int sort = 0; sort <= 4; sort++) {
                x.row(3, sort, 5);
                if (sort == INTS) continue;
                due("from sort " + sort, x.shift(3, 0, 0, 0, n), -12);
                due("to sort " + sort, x.shift(0, 0, 3, 0, n), -12);
            }
        }
        holds(x, 0, 1, 2, 3, 4, 5);
        holds(x, 3, 0, 0, 0, 0, 0);
    }

    // ---- taken

    @Says({"What a SHELF holds, taken for a RULE of KIND k (0 .. 6), or under it: its KIND. BAD, -11, -12.",
        "0 RULE; 1 TURN under RULE; 2 BEST under RULE; 3 NOW under BEST; 4 KEEP under TURN; 5 MATCH under NOW; 6 TOLD under RULE."})
    static void taking() {
        String[] under = {"0", "01", "02", "023", "014", "0235", "06"};
        ChangeBowler x = new ChangeBowler();
        for (int k = 0; k <= 6; k++) x.rule(k, 0, 0);
        for (int kind = 0; kind <= 6; kind++) {
            x.keep(5, kind);
            for (int k = 0; k <= 6; k++) due("KIND " + kind + " taken for " + k, x.taken(5, k), under[kind].indexOf('0' + k) >= 0 ? kind : -12);
            for (int k : new int[] {-1, 7, LEAST, MOST}) due("KIND " + k, x.taken(5, k), BAD);
        }
        for (int k = -1; k <= 7; k++) {
            for (int s : new int[] {-1, 6, LEAST, MOST}) due("taken(" + s + "," + k + ")", x.taken(s, k), BAD);
            boolean is = k >= 0 && k <= 6;
            due("nothing", x.taken(0, k), is ? -11 : BAD);
            for (int sort = 0; sort <= 4; sort++) {
                x.row(1, sort, sort);
                due("a ROW", x.taken(1, k), is ? -12 : BAD);
            }
        }
    }

    // ---- count

    @Says("How many: 0 BOWLERS, 1 RULES, 2 bytes on THE TAPE, 3 overs of THE BOOK, 4 changes that may be UNDONE, 5 bodies that ran in the latest act() (all, kept or not). BAD.")
    static void counting() {
        ChangeBowler x = new ChangeBowler();
        for (int i = 0; i <= 5; i++) due("count(" + i + ")", x.count(i), 0);
        for (int i : new int[] {-1, 6, LEAST, MOST}) due("count(" + i + ")", x.count(i), BAD);
        for (int i = 0; i < 5; i++) x.bowler(8, 0, 0);
        for (int i = 0; i < 21; i++) x.rule(5, 0, 0);
        order(x, "0:12");
        for (int i = 0; i < 21; i++) x.feed(4, 0);
        for (int i = 0; i < 13; i++) x.book(i % 2, 0);
        for (int i = 0; i < 41; i++) x.edge(0, 0, i);
        x.act(0, 3, 0);
        int[] most = {4, 20, 80, 12, 40, 8};
        for (int i = 0; i <= 5; i++) due("count(" + i + ")", x.count(i), most[i]);
        for (int i : new int[] {-1, 6, LEAST, MOST}) due("count(" + i + ")", x.count(i), BAD);
    }

    @Says("BAD (-1): no such number, or it is not as said; NOT (-2): as told; FULL (-3); BIG (-4); STATE (-5): as told; -11 to -14. VOID is -2000000000.")
    static void answers() {
        due("BAD", ChangeBowler.BAD, -1);
        due("NOT", ChangeBowler.NOT, -2);
        due("FULL", ChangeBowler.FULL, -3);
        due("BIG", ChangeBowler.BIG, -4);
        due("STATE", ChangeBowler.STATE, -5);
        due("VOID", ChangeBowler.VOID, -2000000000);
    }
}
