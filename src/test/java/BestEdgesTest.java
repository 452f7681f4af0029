/** Section 3 of the document and promises 13 to 20, sentence by sentence. */
public final class BestEdgesTest extends Edges {
    public static void main(String[] args) throws Exception {
        runAll(BestEdgesTest.class);
    }

    /** A RULE of each KIND; its number is the KIND. */
    private static ChangeBowler ruled(ChangeBowler x) {
        for (int k = 0; k <= 6; k++) x.rule(k, 0, 0);
        return x;
    }

    // ---- mean

    @Says("MEAN of a RULE from a STATE, in thousandths of a run: ENDED: 0.")
    static void meanOfNothing() {
        ChangeBowler x = ruled(new ChangeBowler());
        for (int k = 0; k <= 6; k++) due("nobody, KIND " + k, x.mean(k), 0);
        x.bowler(0, 0, 20);
        for (int k = 0; k <= 6; k++) due("without OVERS, KIND " + k, x.mean(k), 0);
        x.edge(0, 2, 1);
        for (int k = 0; k <= 6; k++) due("one over, KIND " + k, x.mean(k), 20000);
        x.edge(0, 2, 2);
        for (int k = 0; k <= 6; k++) due("one bowls no two in a row, KIND " + k, x.mean(k), 20000);
    }

    /** 1 run by 0, EDGE 500; none by 1, EDGE 332. */
    private static ChangeBowler cutting(String order) {
        ChangeBowler x = ruled(Hand.attack(order, 1, 0));
        x.edge(0, 0, 500);
        x.edge(10, 0, 332);
        return x;
    }

    @Says("RUNS times 1000, and (1000 less R) (OUT times MEAN if it gets out, and 1000 less OUT times MEAN if not, by 1000, cut) / 1000 (cut).")
    static void meanIsCutTwice() {
        ChangeBowler x = cutting("0:3r1");
        // 1000; 999 * 668 / 1000 is 667; 500 * 667 / 1000 is 333, 999 * 333 / 1000 is 332
        due("cut twice", x.mean(0), 1332);
        order(x, "0:2r1");
        due("the second's RUNS alone", x.mean(0), 1000);
        order(x, "0:3r999");
        // 668 / 1000 is cut to 0
        due("rain nearly always", x.mean(0), 1000);
        order(x, "0:3r0");
        due("no rain: 500 * 668 / 1000", x.mean(0), 1334);
        order(x, "00:3");
        // if the first is out at once, 668 is left, else all 1000
        due("the next one comes in", x.mean(0), 1000 + (500 * 668 + 500 * 1000) / 1000);
    }

    @Says("Behind it: o is one more; w, if that one got out;")
    static void anOverIsOneOver() {
        // three overs: whatever comes of them, not all three are out ahead of the last
        ChangeBowler x = ruled(Hand.attack("000:3", 2, 3));
        Hand.edges(x, 500);
        for (int k = 0; k <= 6; k++) {
            due("2, 3, 2, KIND " + k, x.mean(k), 7000);
            due("not less than 7, KIND " + k, x.likely(k, 7), 0);
            due("less than 8, KIND " + k, x.likely(k, 8), 1000000);
        }
        due("THE BEST", x.best(0), 7000);
    }

    @Says("all being put on so (section 3)")
    static void meanOfKindBestAskedFirst() {
        ChangeBowler x = Hand.attack("0:3", 3, 2);
        x.rule(2, 0, 0);
        Hand.edges(x, 0);
        due("2, 3, 2, and nothing was asked ahead", x.mean(0), 7000);
    }

    @Says("MEAN of a RULE from the beginning. BAD; BIG: T is above 8 (of any KIND).")
    static void meanFromTheBeginning() {
        ChangeBowler x = ruled(Hand.attack("0:8", 2, 2));
        Hand.edges(x, 0);
        for (int k = 0; k <= 6; k++) due("8 overs, KIND " + k, x.mean(k), 16000);
        booked(x, "01a");
        for (int k = 0; k <= 6; k++) due("whatever is booked, KIND " + k, x.mean(k), 16000);
        for (int r : new int[] {-1, 7, LEAST, MOST}) due("mean(" + r + ")", x.mean(r), BAD);
        for (String t : new String[] {"0:9", "0:12"}) {
            order(x, t);
            for (int k = 0; k <= 6; k++) due(t + ", KIND " + k, x.mean(k), BIG);
            booked(x, "0101");
            for (int k = 0; k <= 6; k++) due(t + " with a BOOK, KIND " + k, x.mean(k), BIG);
            due("BAD is named first", x.mean(7), BAD);
        }
    }

    @Says("(A FIELD is as it is set, all along.)")
    static void asTheFieldIsSet() {
        ChangeBowler x = ruled(Hand.attack("0:8", 2, 2));
        Hand.edges(x, 0);
        x.field(30, 1, 3);
        due("FIELD 0", x.mean(0), 16000);
        x.set(3);
        for (int k = 0; k <= 6; k++) due("FIELD 3, KIND " + k, x.mean(k), 40000);
        due("THE BEST", x.best(0), 40000);
        due("a GAME", x.game(0, 5), 40);
    }

    // ---- likely

    @Says("LIKELY: in millionths that RUNS of all overs come to less than so many: likewise (ENDED: 1000000 if what is left is above 0, else 0)")
    static void likelyAtItsEdges() {
        ChangeBowler x = ruled(new ChangeBowler());
        for (int k = 0; k <= 6; k++) {
            due("nobody, less than 0", x.likely(k, 0), 0);
            due("nobody, less than 1", x.likely(k, 1), 1000000);
        }
        x = ruled(Hand.attack("0:8", 2, 2));
        Hand.edges(x, 0);
        for (int k = 0; k <= 6; k++) {
            due("16 are not less than 16", x.likely(k, 16), 0);
            due("but less than 17", x.likely(k, 17), 1000000);
            due("nor less than 0", x.likely(k, 0), 0);
            due("and less than 999", x.likely(k, 999), 1000000);
        }
    }

    @Says("(R times what it is if it ends behind that over, and 1000 less R times (OUT times .., and 1000 less OUT times .., by 1000, cut), by 1000, cut)")
    static void likelyIsCutTwice() {
        ChangeBowler x = ruled(Hand.attack("0:3r1", 1, 1));
        x.edge(0, 0, 333);
        x.edge(10, 0, 333);
        // third 0; second (1000000 + 999 * 333000) / 1000 is 333667;
        // first: 333000 and 667 * 333667 / 1000 are 555555, (1000000 + 999 * 555555) / 1000 is 555999
        due("less than 3", x.likely(0, 3), 555999);
        due("less than 2", x.likely(0, 2), 333667);
        due("less than 1", x.likely(0, 1), 0);
        due("less than 4", x.likely(0, 4), 1000000);
        order(x, "0:3r999");
        due("rain: 999000 and 333", x.likely(0, 2), 999333);
    }

    @Says("LIKELY of a RULE from the beginning, for less than so many (0 .. 999). BAD, BIG likewise.")
    static void likelyFromTheBeginning() {
        ChangeBowler x = ruled(Hand.attack("0:8", 20, 20));
        Hand.edges(x, 0);
        due("0", x.likely(6, 0), 0);
        due("999", x.likely(6, 999), 1000000);
        for (int n : new int[] {-1, 1000, LEAST, MOST}) due("likely(6," + n + ")", x.likely(6, n), BAD);
        for (int r : new int[] {-1, 7, LEAST, MOST}) due("likely(" + r + ",5)", x.likely(r, 5), BAD);
        booked(x, "0101010");
        due("whatever is booked", x.likely(6, 160), 0);
        due("one more", x.likely(6, 161), 1000000);
        order(x, "0:9");
        booked(x, "01");
        for (int k = 0; k <= 6; k++) due("T above 8, KIND " + k, x.likely(k, 5), BIG);
        due("BAD is named first", x.likely(0, 1000), BAD);
        due("BAD is named first", x.likely(7, 5), BAD);
    }

    // ---- the best

    @Says("THE BEST: from a STATE the least MEAN over all ways to put on one after the other by what comes; WHOM.")
    static void theBestOfAll() {
        ChangeBowler x = ruled(Hand.attack("01:2", 2, 3, 9));
        // by what comes: to SORT 1 the third is free, so it comes behind a wicket, and only then
        for (int b = 0; b < 3; b++) x.edge(10 * b, 0, 500);
        x.edge(21, 1, -9);
        x.edge(1, 1, 5);
        x.edge(11, 1, 5);
        due("2, then 3 or 0", x.best(0), 2000 + 500 * 3000 / 1000);
        due("the cheaper one first", x.best(1), 0);
        x.edge(0, 0, 400);
        // 2, then 3 in 600 of 1000; or 3, then 2 in 500 of 1000
        due("2000 and 1800 are less than 3000 and 1000", x.best(0), 3800);
        x.edge(10, 0, 500);
        x.edge(10, 1, -1);
        due("alike in RUNS: the one with the greater EDGE", x.best(1), 1);
        due("2000 and 500 * 2000 / 1000", x.best(0), 3000);
    }

    /** Who bowled last, OVERS left and how many are to come are alike in both; the over is not. */
    @Says("THE BEST: from a STATE the least MEAN over all ways")
    static void theBestOfAnOver() {
        ChangeBowler x = ruled(Hand.attack("0:3", 2, 3));
        Hand.edges(x, 0);
        text(x, 1, "o=1?1000");
        booked(x, "0");
        due("3, and all are out", x.best(0), 3000);
        order(x, "0:4");
        booked(x, "10");
        x.edge(10, 2, 7);
        due("3 and 2", x.best(0), 5000);
        due("WHOM", x.best(1), 1);
        due("KIND 2", x.puts(2), 1);
    }

    @Says("MEAN of a RULE from a STATE, in thousandths of a run: ENDED: 0.")
    static void endedBehindALongerOrder() {
        ChangeBowler x = ruled(Hand.attack("00:2", 2, 2));
        Hand.edges(x, 500);
        due("two are in", x.best(0), 4000);
        order(x, "0:2");
        due("one is in", x.best(0), 3000);
        for (int k = 0; k <= 6; k++) due("KIND " + k, x.mean(k), 3000);
    }

    @Says({"(T less o above 8: BIG, ENDED or not, here and for KIND 2.)",
        "THE BEST from the STATE behind THE BOOK: the MEAN (what 0), WHOM (1). BAD, BIG; NOT (what 1): it is ENDED."})
    static void tooFarToSee() {
        for (int t = 9; t <= 12; t++) {
            ChangeBowler x = ruled(Hand.attack("00:" + t, 2, 2));
            Hand.edges(x, 0);
            for (int o = 0; o < t; o++) {
                boolean big = t - o > 8;
                due(t + " less " + o, x.best(0), big ? BIG : 2000 * (t - o));
                due(t + " less " + o + ", WHOM", x.best(1), big ? BIG : o % 2);
                due(t + " less " + o + ", KIND 2", x.puts(2), big ? BIG : o % 2);
                due(t + " less " + o + ", KIND 3", x.puts(3), o % 2);
                due("BAD is named first", x.best(2), BAD);
                x.book(o % 2, 0);
            }
            due("ENDED", x.best(0), 0);
            due("ENDED, WHOM", x.best(1), NOT);
        }
        for (int o = 1; o <= 4; o++) {
            ChangeBowler x = ruled(Hand.attack("0:12", 2, 2));
            booked(x, "0101".substring(0, o - 1));
            x.book((o - 1) % 2, 1);
            due("ENDED behind " + o, x.best(0), o < 4 ? BIG : 0);
            due("WHOM", x.best(1), o < 4 ? BIG : NOT);
            due("KIND 2", x.puts(2), o < 4 ? BIG : NOT);
            due("KIND 0", x.puts(0), NOT);
        }
        ChangeBowler x = new ChangeBowler();
        due("8 overs", x.best(0), 0);
        due("8 overs, WHOM", x.best(1), NOT);
        order(x, "0:9");
        due("nobody bowls, and BIG", x.best(0), BIG);
        for (int what : new int[] {-1, 2, LEAST, MOST}) due("best(" + what + ")", x.best(what), BAD);
    }

    // ---- worth

    @Says("WORTH of a BOWLER: THE BEST from the beginning without it (it may not bowl) less THE BEST; of one OVER more of it: THE BEST less that with OVERS one more.")
    static void worthOfABowler() {
        ChangeBowler x = Hand.attack("0:2", 2, 3, 7);
        Hand.edges(x, 0);
        due("2 and 3 instead of 3 and 7", x.worth(0, 0), 10000 - 5000);
        due("2 and 7", x.worth(1, 0), 9000 - 5000);
        due("none", x.worth(2, 0), 0);
        due("a seventh over is none", x.worth(0, 1), 0);
        x.edge(0, 2, 0);
        due("who has no OVERS", x.worth(0, 0), 0);
        due("its first", x.worth(0, 1), 10000 - 5000);
        due("it still has none", x.edge(0, 2, 0), 0);
        due("but for 12 EDGES and OVERS nothing was told", x.count(4), 13);
        x.edge(10, 2, 0);
        x.edge(20, 2, 0);
        due("nobody may bowl", x.worth(1, 0), 0);
        due("who would be the only one", x.worth(1, 1), -3000);
    }

    @Says("of one OVER more of it (1). VOID: BAD, BIG.")
    static void worthOfANinthOver() {
        ChangeBowler x = Hand.attack("0:2", 2, 2);
        x.edge(0, 2, 8);
        x.edge(10, 2, 8);
        text(x, 1, "l=9?400");
        // 2000 and 900 * 2000 / 1000, or 500 * 2000 / 1000
        due("a ninth", x.worth(0, 1), 3800 - 3000);
        due("of the other", x.worth(1, 1), 800);
        due("OVERS stay", x.edge(0, 2, 8), 8);
    }

    @Says("WORTH of a BOWLER (what 0), of one OVER more of it (1). VOID: BAD, BIG.")
    static void worthRefused() {
        ChangeBowler x = Hand.attack("0:8", 2, 2);
        Hand.edges(x, 0);
        for (int b : new int[] {-1, 2, 3, 4, LEAST, MOST}) {
            due("worth(" + b + ",0)", x.worth(b, 0), VOID);
            due("worth(" + b + ",1)", x.worth(b, 1), VOID);
        }
        for (int what : new int[] {-1, 2, LEAST, MOST}) due("worth(0," + what + ")", x.worth(0, what), VOID);
        due("the last", x.worth(1, 0), 2000 - 16000);
        booked(x, "01010");
        due("from the beginning", x.worth(1, 0), 2000 - 16000);
        order(x, "0:9");
        booked(x, "01");
        due("BIG", x.worth(0, 0), VOID);
        due("BIG", x.worth(0, 1), VOID);
    }

    // ---- fields

    @Says({"Of a FIELD: THE BEST in it, set all along. SET: the FIELD with the least (of like ones the least).", "THE BEST in a FIELD (what 0); SET (1; field any). BAD, BIG."})
    static void fields() {
        ChangeBowler x = Hand.attack("0:8", 2, 2);
        Hand.edges(x, 0);
        due("all alike", x.fielded(0, 1), 0);
        for (int f = 0; f < 4; f++) due("FIELD " + f, x.fielded(f, 0), 16000);
        x.field(20, 1, -1);
        x.field(30, 1, -1);
        x.field(10, 1, 1);
        int[] is = {16000, 24000, 8000, 8000};
        for (int f = 0; f < 4; f++) due("FIELD " + f, x.fielded(f, 0), is[f]);
        for (int any : new int[] {0, 3, -1, 4, LEAST, MOST}) due("of like ones the least, field " + any, x.fielded(any, 1), 2);
        x.field(30, 0, 1);
        due("the least by a little", x.fielded(0, 1), 3);
        for (int f : new int[] {-1, 4, LEAST, MOST}) due("fielded(" + f + ",0)", x.fielded(f, 0), BAD);
        for (int what : new int[] {-1, 2, LEAST, MOST}) due("fielded(0," + what + ")", x.fielded(0, what), BAD);
        booked(x, "0101010");
        due("from the beginning", x.fielded(0, 0), 16000);
        due("FIELD 0 is still set", x.set(1), 0);
        due("whichever is set", x.fielded(0, 0), 16000);
        order(x, "0:9");
        booked(x, "01");
        due("BIG", x.fielded(0, 0), BIG);
        due("BIG", x.fielded(-1, 1), BIG);
        due("BAD is named first", x.fielded(4, 0), BAD);
        due("BAD is named first", x.fielded(0, 2), BAD);
    }

    // ---- kept

    @Says({"KEPT: the first over (o) at which THE BEST puts on a BOWLER, if nobody gets out (NOT: never).", "KEPT. BAD, BIG; NOT."})
    static void kept() {
        ChangeBowler x = Hand.attack("01:2", 1, 2, 3);
        Hand.edges(x, 0);
        x.edge(11, 1, 9);
        due("the first over", x.kept(0), 0);
        due("the second", x.kept(1), 1);
        due("only if one got out", x.kept(2), NOT);
        for (int b : new int[] {-1, 3, 4, LEAST, MOST}) due("kept(" + b + ")", x.kept(b), BAD);
        order(x, "0:9");
        booked(x, "01");
        due("BIG", x.kept(0), BIG);
        due("BAD is named first", x.kept(3), BAD);
    }

    @Says("(These, KEPT, THEIR ORDER: all from the beginning.)")
    static void keptFromTheBeginning() {
        ChangeBowler x = new ChangeBowler();
        x.bowler(1, 0, 1);
        x.bowler(1, 0, 9);
        order(x, "0:8");
        booked(x, "01");
        due("ENDED, but not at the beginning", x.kept(0), 0);
        due("the other", x.kept(1), 1);
        x.edge(0, 2, 0);
        x.edge(10, 2, 0);
        due("nobody may", x.kept(0), NOT);
        due("nor the other", x.kept(1), NOT);
    }

    /** Eight overs, and one who comes in the eighth as nobody else may. */
    @Says("the first over (o) at which THE BEST puts on a BOWLER")
    static void keptToTheLast() {
        ChangeBowler x = new ChangeBowler();
        x.bowler(4, 0, 1);
        x.bowler(3, 0, 1);
        x.bowler(1, 0, 20);
        order(x, "0:8");
        due("the eighth", x.kept(2), 7);
    }

    // ---- their order

    private static ChangeBowler alike(String order) {
        ChangeBowler x = Hand.attack(order, 2, 2);
        Hand.edges(x, 0);
        return x;
    }

    @Says({"THEIR ORDER: of all orders of THE ORDER (at most 5 long, else BIG) the one for which THE BEST is greatest; of like ones the first as digits: digits, and that.",
        "THEIR ORDER: digits (what 0; the first the highest), THE BEST then (1). BAD, BIG."})
    static void theirOrder() {
        String[] orders = {"0:8", "3:8", "10:8", "32:1", "3210:8", "31203:8", "30000:8", "33333:8", "00000:8"};
        int[] first = {0, 3, 1, 23, 123, 1233, 3, 33333, 0};
        for (int i = 0; i < orders.length; i++) due("alike: the first as digits of " + orders[i], alike(orders[i]).theirs(0), first[i]);
        ChangeBowler x = alike("01203:8");
        due("that", x.theirs(1), 16000);
        x.edge(1, 1, 1);
        x.edge(11, 1, 1);
        due("the one who takes most first", x.theirs(0), 10023);
        due("that", x.theirs(1), 24000);
        due("THE ORDER stays", x.of(11), 1);
        due("THE ORDER stays", x.of(10), 0);
        x.edge(2, 1, 1);
        x.edge(12, 1, 1);
        due("two alike: the first as digits", x.theirs(0), 10023);
        for (int what : new int[] {-1, 2, LEAST, MOST}) due("theirs(" + what + ")", x.theirs(what), BAD);
        booked(x, "0101010");
        due("from the beginning", x.theirs(1), 24000);
        due("THE BOOK stays", x.count(3), 7);
    }

    @Says("(at most 5 long, else BIG)")
    static void theirOrderTooLong() {
        String six = "012301";
        for (int what = 0; what <= 1; what++) {
            for (int n = 1; n <= 6; n++) due(n + " long", alike(six.substring(0, n) + ":1").theirs(what) == BIG ? 1 : 0, n > 5 ? 1 : 0);
            due("6 long", alike("012301:1").theirs(what), BIG);
            due("8 long", alike("00000000:1").theirs(what), BIG);
            due("T 8", alike("0:8").theirs(what), what == 0 ? 0 : 16000);
            due("T 9", alike("0:9").theirs(what), BIG);
        }
        due("BAD is named first", alike("012301:9").theirs(2), BAD);
    }

    @Says("for which THE BEST is greatest")
    static void theirOrderIsOutInTheEnd() {
        ChangeBowler x = alike("0:2");
        Hand.edges(x, 500);
        due("2 and 500 * 2: none is in behind the only one", x.theirs(1), 3000);
        order(x, "10:3");
        // 2, 2, and a third over unless both are out
        due("750 of the last 2", x.theirs(1), 5500);
        due("alike: the first as digits", x.theirs(0), 1);
    }

    @Says("of all orders of THE ORDER (at most 5 long, else BIG)")
    static void theirOrderBehindALongerOne() {
        ChangeBowler x = alike("33213:2");
        due("five", x.theirs(0), 12333);
        order(x, "20:2");
        due("two", x.theirs(0), 2);
        order(x, "1:2");
        due("one", x.theirs(0), 1);
        order(x, "333333:2");
        due("six", x.theirs(0), BIG);
        order(x, "00:2");
        due("two", x.theirs(0), 0);
    }

    // ---- learn

    @Says({"LEARNT: one whom nobody knows: of n overs (0 .. 99) in k of which one like it got out: 1000 (k and 1) / (n and 2), cut",
        "it becomes EDGE of a BOWLER on a SORT (at most 500)."})
    static void learnt() {
        for (int n = 0; n <= 99; n++) {
            ChangeBowler x = two();
            for (int k = 0; k <= n; k++) {
                int want = 1000 * (k + 1) / (n + 2);
                if (want > 500) want = 500;
                due("learn(13," + (100 * n + k) + ")", x.learn(13, 100 * n + k), want);
            }
            due("it is EDGE: held at 500", x.over(130, 0, 0), Math.min(500, 1000 * (n + 1) / (n + 2)));
            for (int k = n + 1; k <= 99; k++) due("learn(13," + (100 * n + k) + ")", x.learn(13, 100 * n + k), BAD);
            due("of no other", x.over(30, 0, 0), 100);
            due("on no other SORT", x.over(120, 0, 0), 100);
        }
        int[][] by = {{0, 500}, {100, 333}, {101, 500}, {9900, 9}, {9949, 495}, {9950, 500}, {9849, 500}, {9848, 490}, {503, 500}, {502, 428}};
        for (int[] one : by) due("learn(0," + one[0] + ")", two().learn(0, one[0]), one[1]);
    }

    @Says("LEARNT: EDGE then. BAD (k above n). nk: 100 n and k.")
    static void learnRefused() {
        ChangeBowler x = two();
        for (int nk : new int[] {-1, -100, 10000, 10099, 1, 99, 102, 9899, LEAST, MOST}) due("learn(0," + nk + ")", x.learn(0, nk), BAD);
        for (int bs : new int[] {-1, -10, 4, 9, 14, 20, 23, 40, LEAST, MOST}) due("learn(" + bs + ",0)", x.learn(bs, 0), BAD);
        due("no change", x.count(4), 0);
        due("the last of all", x.learn(13, 9999), 500);
        due("a change", x.count(4), 1);
        due("the same again", x.learn(13, 0), 500);
        due("is none", x.count(4), 1);
        due("undone", x.undo(), 0);
        due("EDGE is as it was", x.over(130, 0, 0), 100);
    }
}
