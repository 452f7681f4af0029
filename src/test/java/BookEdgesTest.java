/** Section 4 of the document, a BOOK FROM A ROW, and promises 21 to 29, sentence by sentence. */
public final class BookEdgesTest extends Edges {
    public static void main(String[] args) throws Exception {
        runAll(BookEdgesTest.class);
    }

    // ---- the book

    @Says("(up to 12, from the beginning on; one that may not be is refused)")
    static void twelveOvers() {
        ChangeBowler x = Hand.attack("0:12", 2, 2);
        for (int o = 0; o < 12; o++) {
            due("it bowled last", x.book(1 - o % 2, 0), o == 0 ? 1 : STATE);
            if (o == 0) x.close();
            due("over " + o, x.book(o % 2, 0), o + 1);
            due("how many", x.count(3), o + 1);
        }
        due("a thirteenth: it is ENDED", x.book(0, 0), STATE);
        due("twelve stay", x.count(3), 12);
        due("twelve are closed", x.close(), 12);
        due("from the beginning on", x.book(1, 0), 1);
    }

    @Says("An over of THE BOOK: how many. BAD (no such), STATE: it is ENDED, or that BOWLER may not bowl; FULL: 12.")
    static void bookRefused() {
        ChangeBowler x = Hand.attack("00:3", 2, 2);
        for (int b : new int[] {-1, 2, 3, 4, LEAST, MOST}) due("book(" + b + ",0)", x.book(b, 0), BAD);
        for (int out : new int[] {-1, 2, LEAST, MOST}) due("book(0," + out + ")", x.book(0, out), BAD);
        due("none came", x.count(3), 0);
        due("out", x.book(0, 1), 1);
        due("it bowled last", x.book(0, 0), STATE);
        due("BAD is named first", x.book(0, 2), BAD);
        due("all are out", x.book(1, 1), 2);
        due("ENDED", x.book(0, 0), STATE);
        due("BAD is named first", x.book(2, 0), BAD);
        due("two stay", x.count(3), 2);
        x.close();
        x.edge(0, 2, 0);
        due("without OVERS", x.book(0, 0), STATE);
        due("the other", x.book(1, 0), 1);
        due("nobody may", x.book(1, 0), STATE);
        due("BAD is named first", x.book(-1, 0), BAD);
    }

    @Says("THE BOOK is empty: how many overs it had.")
    static void closing() {
        ChangeBowler x = Hand.attack("00:3", 2, 2);
        x.rule(0, 0, 0);
        due("empty", x.close(), 0);
        booked(x, "a");
        due("one", x.close(), 1);
        due("empty", x.close(), 0);
        booked(x, "a10");
        due("three", x.close(), 3);
        due("none", x.count(3), 0);
        due("nobody bowled last", x.puts(0), 0);
    }

    // ---- a book from a row

    private static ChangeBowler shelved(String order, int... bytes) {
        ChangeBowler x = Hand.attack(order, 2, 2);
        x.row(5, 0, bytes.length);
        for (int i = 0; i < bytes.length; i++) x.put(5, i, bytes[i]);
        return x;
    }

    @Says("over by over 10 times whether one got out (0, 1), and the BOWLER")
    static void bytesOfABook() {
        for (int v = -128; v <= 127; v++) {
            ChangeBowler x = shelved("00:12", v);
            x.bowler(6, 0, 2);
            x.rule(0, 0, 0);
            boolean one = v >= 0 && v <= 2 || v >= 10 && v <= 12;
            due("byte " + v, x.books(5, 0), one ? 1 : 0);
            due("THE BOOK", x.count(3), one ? 1 : 0);
            if (!one) continue;
            due("who bowled it may not bowl", x.book(v % 10, 0), STATE);
            due("another may", x.book((v + 1) % 10 % 3, 1), 2);
            due("two out end it", x.puts(0) == NOT ? 1 : 0, v / 10);
        }
    }

    @Says("over by over 10 times whether one got out (0, 1), and the BOWLER")
    static void bytesOfTheOnlyBowler() {
        for (int v : new int[] {0, 10}) {
            ChangeBowler x = Hand.attack("00:12", 2);
            x.row(5, 0, 1);
            x.put(5, 0, v);
            due("byte " + v, x.books(5, 0), 1);
        }
    }

    @Says("it ends where the row is missing, ends (a place below 0, too: the row lacks there), or an over may not be: those ahead are THE BOOK then.")
    static void whereABookEnds() {
        ChangeBowler x = shelved("00:12", 0, 1, 0, 1, 10, 11, 0);
        due("all are out", x.books(5, 0), 6);
        due("from 1 on", x.books(5, 1), 5);
        due("from the last on", x.books(5, 6), 1);
        due("from its end on", x.books(5, 7), 0);
        due("THE BOOK is empty", x.count(3), 0);
        booked(x, "0");
        for (int i : new int[] {-1, 8, 60, LEAST, MOST}) {
            booked(x, "01");
            due("from " + i + " on", x.books(5, i), 0);
            due("THE BOOK is empty", x.count(3), 0);
        }
        booked(x, "01");
        due("the row is missing", x.books(4, 0), 0);
        due("THE BOOK is empty", x.count(3), 0);
        booked(x, "01");
        x.row(4, 0, 0);
        due("the row is empty", x.books(4, 0), 0);
        due("THE BOOK is empty", x.count(3), 0);
        booked(x, "10");
        due("what was booked ahead does not count", x.books(5, 0), 6);
    }

    @Says("or an over may not be: those ahead are THE BOOK then.")
    static void whereAnOverMayNotBe() {
        due("it bowled last", shelved("00:12", 0, 1, 1, 0).books(5, 0), 2);
        due("no such BOWLER", shelved("00:12", 0, 1, 2, 1).books(5, 0), 2);
        due("T overs", shelved("00:3", 0, 1, 0, 1, 0).books(5, 0), 3);
        due("all are out", shelved("0:12", 0, 11, 0).books(5, 0), 2);
        ChangeBowler x = shelved("0:12", 0, 1, 0, 1, 0, 1);
        x.edge(0, 2, 2);
        due("no OVERS left", x.books(5, 0), 4);
        x.edge(10, 2, 0);
        due("without OVERS", x.books(5, 0), 1);
        x = shelved("0:12", new int[60]);
        for (int i = 0; i < 60; i++) x.put(5, i, i % 2);
        due("sixty bytes are twelve overs", x.books(5, 0), 12);
        due("from 48 on", x.books(5, 48), 12);
        due("from 49 on", x.books(5, 49), 11);
        due("from 59 on", x.books(5, 59), 1);
    }

    @Says("A BOOK FROM A ROW on a SHELF, from place i on: how many overs it has. BAD, -12 (no ROW of bytes; a SHELF that holds nothing is missing).")
    static void booksRefused() {
        ChangeBowler x = Hand.attack("00:12", 2, 2);
        x.rule(0, 0, 0);
        booked(x, "01");
        for (int s : new int[] {-1, 6, LEAST, MOST}) due("books(" + s + ",0)", x.books(s, 0), BAD);
        for (int sort = 1; sort <= 4; sort++) {
            x.row(0, sort, 3);
            for (int i : new int[] {0, -1, 3, LEAST, MOST}) due("a ROW of sort " + sort, x.books(0, i), -12);
            x.row(0, sort, 0);
            due("an empty ROW of sort " + sort, x.books(0, 0), -12);
        }
        x.keep(0, 0);
        due("a RULE", x.books(0, 0), -12);
        due("THE BOOK stays", x.count(3), 2);
        x.keep(0, -1);
        due("nothing", x.books(0, 0), 0);
        due("THE BOOK is empty", x.count(3), 0);
    }

    // ---- cost

    @Says("COST of its i-th over. VOID: BAD, BIG (T less the overs ahead of it above 8).")
    static void costRefused() {
        ChangeBowler x = Hand.attack("0:12", 2, 3);
        Hand.edges(x, 0);
        due("an empty BOOK", x.cost(0), VOID);
        booked(x, "010101010101");
        for (int i = 0; i < 12; i++) due("cost(" + i + ")", x.cost(i), i < 4 ? VOID : 0);
        for (int i : new int[] {-1, 12, 13, LEAST, MOST}) due("cost(" + i + ")", x.cost(i), VOID);
        order(x, "0:8");
        booked(x, "1");
        due("8 overs: 3, 2, .. as well as 2, 3, ..", x.cost(0), 0);
        due("no second", x.cost(1), VOID);
        order(x, "0:9");
        booked(x, "10");
        due("9 overs", x.cost(0), VOID);
        due("8 behind the first", x.cost(1), 0);
    }

    @Says("COST of its i-th over: THE BEST of the STATE with that BOWLER put on then (and the best behind it) less THE BEST of it")
    static void costOfAnOver() {
        ChangeBowler x = Hand.attack("0:3", 2, 3, 7);
        Hand.edges(x, 0);
        booked(x, "201");
        due("7, 2, 3 instead of 2, 3, 2", x.cost(0), 12000 - 7000);
        due("2, 3 instead of 2, 3", x.cost(1), 0);
        due("3 instead of 3", x.cost(2), 0);
        x.close();
        booked(x, "021");
        due("2, 3, 2", x.cost(0), 0);
        due("7, 2 instead of 3, 2", x.cost(1), 9000 - 5000);
        due("3 instead of 2", x.cost(2), 1000);
        x.close();
        booked(x, "ca");
        due("what came of it does not count", x.cost(0), 5000);
        due("all were out then", x.cost(1), VOID);
    }

    @Says("(and the best behind it)")
    static void costByWhoIsInThen() {
        ChangeBowler x = Hand.attack("01:2", 2, 3);
        Hand.edges(x, 0);
        x.edge(0, 0, 400);
        x.edge(1, 1, 2);
        x.edge(11, 1, 5);
        // 2, then 8 if the first one got out and 3 if not, or 3 and 2
        for (String over : new String[] {"0", "a"}) {
            booked(x, over);
            due("2 and (400 * 8 + 600 * 3) instead of 3 and 2", x.cost(0), 2000 + 3200 + 1800 - 5000);
            x.close();
        }
        order(x, "0:2");
        booked(x, "1");
        due("3 and 2 instead of 2 and 600 * 3", x.cost(0), 5000 - 3800);
        order(x, "01:1");
        x.edge(0, 0, 500);
        text(x, 1, "500");
        booked(x, "0");
        due("nothing is behind the last over, whoever gets out", x.cost(0), 0);
    }

    @Says("(also where it may not bowl any more; ENDED: 0)")
    static void costWhereItMayNot() {
        ChangeBowler x = Hand.attack("0:3", 2, 3, 7);
        Hand.edges(x, 0);
        booked(x, "201");
        x.edge(20, 2, 0);
        due("7, 2, 3 instead of 2, 3, 2", x.cost(0), 12000 - 7000);
        x.edge(10, 2, 0);
        // at the third over nobody else bowled last: 2 may not, as it bowled last; 3 and 7 have no OVERS
        due("ENDED: nobody may", x.cost(2), 0);
        due("7, 2 instead of 2", x.cost(0), 9000 - 2000);
        x.edge(0, 2, 0);
        for (int i = 0; i < 3; i++) due("ENDED at once", x.cost(i), 0);
        x.undo();
        x.edge(0, 2, 1);
        due("2 instead of 2", x.cost(1), 0);
    }

    @Says("A STATE: how many are out (w), overs done (o), who bowled last (b; none), STEPS of tiredness (0 .. 3) and overs bowled of each BOWLER.")
    static void costByOversLeft() {
        ChangeBowler x = Hand.attack("0:4", 2, 3, 7);
        Hand.edges(x, 0);
        text(x, 1, "l*100");
        booked(x, "0101");
        // third: 5 are left of 6, so 2 and 500 * 3; there is no better
        for (int i = 2; i <= 3; i++) due("cost(" + i + ")", x.cost(i), 0);
        text(x, 1, "l=5?500");
        x.close();
        booked(x, "0201");
        due("7, 2 and 500 * 3 instead of 3, 2 and 500 * 3", x.cost(1), 7000 + (2000 + 1500) - (3000 + 2000 + 1500));
        x.close();
        booked(x, "0102");
        text(x, 1, "l=-1?500");
        x.edge(0, 2, 0);
        due("one less than none are left: 2 and 500 * 3 instead of 7 and 3", x.cost(2), 2000 + 1500 - (7000 + 3000));
    }

    // ---- lost

    @Says({"LOST: the over that cost most (of like ones the first), and that; its SUM.",
        "LOST: the over (what 0), what it cost (1), SUM (2). BAD (also an empty BOOK), BIG."})
    static void lost() {
        ChangeBowler x = Hand.attack("0:8", 2, 2, 5);
        Hand.edges(x, 0);
        for (int what = 0; what <= 2; what++) due("an empty BOOK", x.lost(what), BAD);
        booked(x, "01");
        due("of like ones the first", x.lost(0), 0);
        due("nothing", x.lost(1), 0);
        due("SUM", x.lost(2), 0);
        booked(x, "2020");
        due("the first that cost 3", x.lost(0), 2);
        due("3", x.lost(1), 3000);
        due("SUM", x.lost(2), 6000);
        x.field(20, 1, 0);
        x.edge(20, 1, 9);
        x.close();
        booked(x, "2");
        due("the only one", x.lost(0), 0);
        due("12", x.lost(1), 12000);
        for (int what : new int[] {-1, 3, LEAST, MOST}) due("lost(" + what + ")", x.lost(what), BAD);
        order(x, "0:9");
        due("BAD is named first: an empty BOOK", x.lost(0), BAD);
        booked(x, "0101");
        for (int what = 0; what <= 2; what++) due("BIG", x.lost(what), BIG);
        due("BAD is named first", x.lost(3), BAD);
    }

    @Says("LOST: the over that cost most (of like ones the first), and that; its SUM.")
    static void lostWhereAllCostLessThanNothing() {
        ChangeBowler x = Hand.attack("0:2", 1, 2, 9, 9);
        Hand.edges(x, 0);
        booked(x, "01");
        x.edge(0, 2, 0);
        x.edge(10, 2, 0);
        due("1 and 9 instead of 9 and 9", x.cost(0), -8000);
        due("2 instead of 9", x.cost(1), -7000);
        due("the over", x.lost(0), 1);
        due("what it cost", x.lost(1), -7000);
        due("SUM", x.lost(2), -15000);
        x.edge(10, 1, -1);
        due("of like ones the first", x.lost(0), 0);
        due("what both cost", x.lost(1), -8000);
        due("SUM", x.lost(2), -16000);
    }

    // ---- games

    /** Two overs of one run each to one who is out by OUT in the first, never in the second. */
    private static ChangeBowler gaming(int out, int rain) {
        ChangeBowler x = Hand.attack("0:2r" + rain, 1, 1);
        x.rule(0, 0, 0);
        Hand.edges(x, 0);
        text(x, 1, "o=0?" + out);
        return x;
    }

    @Says("out, if (z >>> 8) % 1000 is below OUT")
    static void outByLot() {
        for (int lot : new int[] {0, 1, 500, 998, 999}) {
            int seed = Hand.seedFor(lot);
            ChangeBowler x = gaming(lot, 0);
            due("lot " + lot + " is not below itself", x.game(0, seed), 2);
            due("not out", x.led(0, 2), 0);
            x = gaming(lot + 1, 0);
            due("lot " + lot + " is below", x.game(0, seed), 1);
            due("out", x.led(0, 2), 1);
            due("all were out", x.led(-1, 0), 1);
        }
    }

    @Says("then likewise for rain (below R: it ends)")
    static void rainByLot() {
        for (int lot : new int[] {0, 1, 500, 998, 999}) {
            int seed = Hand.seedFor(-1, lot);
            ChangeBowler x = gaming(0, lot);
            due("lot " + lot + " is not below itself", x.game(0, seed), 2);
            due("two overs", x.led(-1, 0), 2);
            if (lot == 999) continue;
            x = gaming(0, lot + 1);
            due("lot " + lot + " is below", x.game(0, seed), 1);
            due("one over", x.led(-1, 0), 1);
        }
        ChangeBowler x = Hand.attack("0:2", 1, 1);
        x.rule(0, 0, 0);
        Hand.edges(x, 0);
        for (int lot : new int[] {0, 700}) {
            int seed = Hand.seedFor(-1, -1, lot);
            text(x, 1, "o=1?" + lot);
            x.game(0, seed);
            due("the third draw is the second over's", x.led(1, 2), 0);
            text(x, 1, "o=1?" + (lot + 1));
            x.game(0, seed);
            due("also without R", x.led(1, 2), 1);
        }
    }

    @Says("z = z * 1103515245 + 12345 (an int; SEED at first)")
    static void drawsWrap() {
        int below = 0;
        for (int seed : new int[] {LEAST, LEAST + 1, -1, 0, 1, 2, 3, 7, 12345, -12345, 1 << 30, MOST - 1, MOST}) {
            int z = Hand.drawn(seed), out = Hand.lot(z) < 300 ? 1 : 0;
            if (z < 0 && out == 0) below++;
            ChangeBowler x = gaming(300, 0);
            due("seed " + seed, x.game(0, seed), 2 - out);
            due("out", x.led(0, 2), out);
        }
        due("some draws below 0 are not out", below > 2 ? 1 : 0, 1);
    }

    @Says("A GAME: RUNS in all; it is the latest one. BAD, BIG (T above 8).")
    static void gameRefused() {
        ChangeBowler x = Hand.attack("0:8", 1, 2);
        for (int k = 0; k <= 6; k++) x.rule(k, 0, 0);
        Hand.edges(x, 0);
        due("8 overs", x.game(0, 3), 12);
        due("8 overs", x.led(-1, 0), 8);
        for (int r : new int[] {-1, 7, LEAST, MOST}) due("game(" + r + ",3)", x.game(r, 3), BAD);
        order(x, "0:9");
        booked(x, "01");
        for (int k = 0; k <= 6; k++) due("T above 8, KIND " + k, x.game(k, 3), BIG);
        due("BAD is named first", x.game(7, 3), BAD);
        due("the latest stays", x.led(-1, 0), 8);
        due("its last over", x.led(7, 1), 2);
        order(x, "0:1");
        due("one over", x.game(0, 3), 1);
        due("it is the latest", x.led(-1, 0), 1);
        due("no second over of the one ahead", x.led(1, 0), BAD);
        order(x, "0:8");
        booked(x, "01010");
        due("from the beginning", x.game(0, 3), 12);
        x.edge(0, 2, 0);
        x.edge(10, 2, 0);
        due("ENDED at once", x.game(0, 3), 0);
        due("no over", x.led(-1, 0), 0);
        due("nobody", x.led(0, 0), BAD);
    }

    @Says("LED by it: over i: BOWLER (what 0), RUNS (1), out (2). i -1: how many overs (what 0). BAD.")
    static void led() {
        ChangeBowler x = Hand.attack("00:8", 1, 2);
        due("no game", x.led(-1, 0), 0);
        for (int what = 0; what <= 2; what++) due("no over", x.led(0, what), BAD);
        x.rule(0, 0, 0);
        Hand.edges(x, 0);
        text(x, 1, "o=7?1000");
        due("12 runs", x.game(0, 1), 12);
        for (int i = 0; i < 8; i++) {
            due("BOWLER of " + i, x.led(i, 0), i % 2);
            due("RUNS of " + i, x.led(i, 1), 1 + i % 2);
            due("out in " + i, x.led(i, 2), i == 7 ? 1 : 0);
            for (int what : new int[] {-1, 3, LEAST, MOST}) due("led(" + i + "," + what + ")", x.led(i, what), BAD);
        }
        for (int what = 0; what <= 2; what++) {
            for (int i : new int[] {-2, 8, 9, 12, LEAST, MOST}) due("led(" + i + "," + what + ")", x.led(i, what), BAD);
        }
        for (int what : new int[] {-1, 1, 2, 3, LEAST, MOST}) due("led(-1," + what + ")", x.led(-1, what), BAD);
    }

    // ---- changes

    /** Two BOWLERS of whom OUT to SORT 3 is 100 times OVERS left. */
    private static ChangeBowler changing() {
        ChangeBowler x = Hand.attack("0:3", 0, 0);
        text(x, 1, "s=3?l*100-100");
        return x;
    }

    /** The i-th of six changes, each of another sort. */
    private static void change(ChangeBowler x, int i) {
        switch (i) {
            case 0: x.edge(0, 0, 222); break;
            case 1: x.edge(0, 1, 4); break;
            case 2: x.edge(10, 2, 1); break;
            case 3: x.field(2, 0, 11); break;
            case 4: x.field(2, 1, 3); break;
            default: x.learn(11, 9900);
        }
    }

    /** The number that the i-th of six changes told, as it is now. */
    private static int toldBy(ChangeBowler x, int i) {
        switch (i) {
            case 0: return x.over(0, 0, 0);
            case 1: return x.over(0, 0, 1);
            case 2: return x.over(130, 0, 0);
            case 3: return x.over(120, 0, 0);
            case 4: return x.over(120, 0, 1);
            default: return x.over(110, 0, 0);
        }
    }

    @Says("CHANGES (EDGES, RUNS, OVERS, FIELDS' numbers; telling the same number is none) can be UNDONE, the latest first, and DONE AGAIN")
    static void undoneOneByOne() {
        int[] before = {100, 0, 600, 100, 0, 100}, after = {222, 4, 100, 111, 3, 9};
        ChangeBowler x = changing();
        for (int i = 0; i < 6; i++) {
            change(x, i);
            due("a change", x.count(4), i + 1);
            change(x, i);
            due("the same is none", x.count(4), i + 1);
        }
        for (int n = 5; n >= 0; n--) {
            due("undone", x.undo(), n);
            for (int i = 0; i < 6; i++) due(i + " behind " + n, toldBy(x, i), i < n ? after[i] : before[i]);
            due("how many may be", x.count(4), n);
        }
        due("none is left", x.undo(), STATE);
        for (int n = 0; n < 6; n++) {
            due("done again", x.redo(), 5 - n);
            for (int i = 0; i < 6; i++) due(i + " behind " + n, toldBy(x, i), i <= n ? after[i] : before[i]);
            due("how many may be", x.count(4), n + 1);
        }
        due("none is left", x.redo(), STATE);
    }

    @Says("(as long as no other came behind)")
    static void noneCameBehind() {
        for (int i = 0; i < 6; i++) {
            ChangeBowler x = Hand.attack("0:3", 0, 0);
            x.edge(3, 0, 101);
            x.edge(3, 0, 102);
            x.undo();
            change(x, i);
            due("another came behind, " + i, x.redo(), STATE);
            due("both can be undone", x.undo(), 1);
            due("it can be done again", x.redo(), 0);
            due("what was undone ahead of it is not", x.over(30, 0, 0), 101);
        }
    }

    @Says("telling the same number is none")
    static void theSameIsNone() {
        ChangeBowler x = Hand.attack("0:3", 0, 0);
        x.rule(0, 0, 0);
        x.edge(3, 0, 333);
        x.undo();
        x.edge(3, 0, 100);
        x.edge(3, 1, 0);
        x.edge(3, 2, 6);
        x.field(3, 0, 0);
        x.field(3, 1, 0);
        x.edge(3, 0, 501);
        x.edge(3, 3, 1);
        x.field(40, 0, 1);
        x.learn(3, 1);
        x.set(2);
        x.set(0);
        x.bowler(1, 1, 1);
        order(x, "0:4");
        text(x, 1, "0");
        x.book(0, 0);
        x.game(0, 1);
        x.worth(0, 1);
        x.fielded(0, 1);
        x.theirs(0);
        due("none of these is a change", x.count(4), 0);
        due("it can be done again", x.redo(), 0);
        due("EDGE", x.over(30, 0, 0), 333);
    }

    @Says({"40 at most are kept.", "UNDONE: how many may still be. STATE: none.", "DONE AGAIN: how many may still be. STATE: none."})
    static void fortyAreKept() {
        for (int n : new int[] {1, 39, 40, 41, 42, 80, 81, 100}) {
            ChangeBowler x = Hand.attack("0:3", 0, 0);
            for (int i = 1; i <= n; i++) {
                x.edge(0, 0, 200 + i);
                due("may be undone", x.count(4), Math.min(40, i));
            }
            int kept = Math.min(40, n);
            for (int i = kept - 1; i >= 0; i--) due("undo", x.undo(), i);
            due("no more", x.undo(), STATE);
            due("as it was ahead of them", x.over(0, 0, 0), n <= 40 ? 100 : 200 + n - 40);
            for (int i = kept - 1; i >= 0; i--) due("redo", x.redo(), i);
            due("no more", x.redo(), STATE);
            due("as it was behind them", x.over(0, 0, 0), 200 + n);
            due("all may be undone", x.count(4), kept);
        }
    }

    @Says("40 at most are kept.")
    static void fortyWithOneUndone() {
        ChangeBowler x = Hand.attack("0:3", 0, 0);
        for (int i = 1; i <= 40; i++) x.edge(0, 0, 200 + i);
        due("39 may still be", x.undo(), 39);
        x.edge(0, 0, 300);
        due("40 again", x.count(4), 40);
        due("none to be done again", x.redo(), STATE);
        x.edge(0, 0, 301);
        due("still 40", x.count(4), 40);
        for (int i = 39; i >= 0; i--) due("undo", x.undo(), i);
        due("the first is gone", x.over(0, 0, 0), 201);
        due("STATE", x.undo(), STATE);
        due("it changed nothing", x.over(0, 0, 0), 201);
        due("nothing that may be undone", x.count(4), 0);
        ChangeBowler y = new ChangeBowler();
        due("a new object: undo", y.undo(), STATE);
        due("a new object: redo", y.redo(), STATE);
    }

    /** The i-th of 64 numbers, each of a place of its own, becomes v. */
    private static int told(ChangeBowler x, int i, int v) {
        int place = i / 4 % 4 * 10 + i % 4;
        return i < 32 ? x.edge(place, i / 16, v) : x.field(place, i / 16 - 2, v);
    }

    @Says("40 at most are kept.")
    static void fortyOfManyPlaces() {
        for (int n : new int[] {39, 40, 41, 50, 64}) {
            ChangeBowler x = Hand.attack("0:3", 2, 2, 2, 2);
            for (int i = 0; i < n; i++) due("what it was", told(x, i, 5), i < 16 ? 100 : 0);
            int kept = Math.min(40, n);
            for (int i = kept - 1; i >= 0; i--) due("undo", x.undo(), i);
            due("no more", x.undo(), STATE);
            for (int i = 0; i < kept; i++) due("redo", x.redo(), kept - 1 - i);
            due("no more", x.redo(), STATE);
            while (x.count(4) > 0) x.undo();
            // telling the same is none, else it would tell what it is not
            for (int i = 0; i < n; i++) due("number " + i + " of " + n, told(x, i, 5), i < n - kept ? 5 : i < 16 ? 100 : 0);
        }
    }
}
