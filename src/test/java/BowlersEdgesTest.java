/** Section 1 of the document and promises 1 to 10, sentence by sentence: the last that is allowed and the first that is not. */
public final class BowlersEdgesTest extends Edges {
    public static void main(String[] args) throws Exception {
        runAll(BowlersEdgesTest.class);
    }

    /** As many TEXTS and questions as an object is good for, each answered by the TEXT of its own time. */
    @Says("An object is used for at most 512 calls after it has been made")
    static void allCalls() {
        ChangeBowler x = new ChangeBowler();
        int calls = 1;
        due("the first call", x.bowler(8, 0, 0), 0);
        for (int n = 0; n < 170; n++) {
            due("feed " + n, x.feed(3, '0' + n / 100 | '0' + n / 10 % 10 << 8 | '0' + n % 10 << 16), 3);
            due("text " + n, x.text(1), 1);
            due("over " + n, x.over(0, 0, 0), 100 + n);
            calls += 3;
        }
        due("calls", ++calls, 512);
        due("the last call", x.over(0, 0, 0), 269);
    }

    // ---- bowlers

    @Says({"No bowlers, one batsman.", "It is 0 : 8 at first."})
    static void newObject() {
        ChangeBowler x = new ChangeBowler();
        due("BOWLERS", x.count(0), 0);
        due("nobody to be told of", x.edge(0, 0, 100), VOID);
        due("one batsman", x.of(0), 1);
        due("of SORT 0", x.of(10), 0);
        due("no second", x.of(11), BAD);
        due("T", x.of(1), 8);
        due("R", x.of(2), 0);
        for (int i = 1; i <= 5; i++) due("count(" + i + ")", x.count(i), 0);
    }

    @Says({"BOWLERS 0 .. 3, as they come", "A BOWLER: its number. BAD, FULL."})
    static void fourBowlers() {
        ChangeBowler x = new ChangeBowler();
        for (int b = 0; b < 4; b++) {
            due("not yet there", x.edge(10 * b, 2, 1), VOID);
            due("its number", x.bowler(1, 0, b), b);
            due("how many", x.count(0), b + 1);
            due("each with its own COST", x.over(100 * b, 0, 1), b);
        }
        due("a fifth", x.bowler(1, 0, 0), FULL);
        due("BAD is named first", x.bowler(9, 0, 0), BAD);
        due("four stay", x.count(0), 4);
        due("no BOWLER 4", x.edge(40, 0, 1), VOID);
    }

    @Says("with OVERS (0 .. 8)")
    static void oversOfABowler() {
        for (int v = 0; v <= 8; v++) {
            ChangeBowler x = new ChangeBowler();
            due("bowler(" + v + ",0,0)", x.bowler(v, 0, 0), 0);
            due("OVERS", x.edge(0, 2, v), v);
        }
        for (int v : new int[] {-1, 9, LEAST, MOST}) {
            ChangeBowler x = two();
            due("bowler(" + v + ",0,0)", x.bowler(v, 0, 0), BAD);
            due("none came", x.count(0), 2);
            due("edge to " + v, x.edge(0, 2, v), VOID);
            due("OVERS stay", x.edge(0, 2, 2), 2);
        }
    }

    @Says("TIRES (0 .. 50 hundredths by a step)")
    static void tiresOfABowler() {
        for (int v = 0; v <= 50; v++) {
            ChangeBowler x = new ChangeBowler();
            due("bowler(1," + v + ",0)", x.bowler(1, v, 0), 0);
            due("a step", x.over(1, 0, 0), 100 - v);
        }
        for (int v : new int[] {-1, 51, LEAST, MOST}) {
            ChangeBowler x = new ChangeBowler();
            due("bowler(1," + v + ",0)", x.bowler(1, v, 0), BAD);
            due("none came", x.count(0), 0);
        }
    }

    @Says("a COST (0 .. 20 runs an over)")
    static void costOfABowler() {
        for (int v = 0; v <= 20; v++) {
            ChangeBowler x = new ChangeBowler();
            due("bowler(1,0," + v + ")", x.bowler(1, 0, v), 0);
            due("RUNS", x.over(0, 0, 1), v);
        }
        for (int v : new int[] {-1, 21, LEAST, MOST}) {
            ChangeBowler x = new ChangeBowler();
            due("bowler(1,0," + v + ")", x.bowler(1, 0, v), BAD);
            due("none came", x.count(0), 0);
        }
    }

    private static ChangeBowler four() {
        ChangeBowler x = new ChangeBowler();
        for (int b = 0; b < 4; b++) x.bowler(8, 0, 9);
        return x;
    }

    @Says({"a BOWLER's EDGE on each (0 .. 500 thousandths that one gets out in an over; 100 at first)", "VOID: BAD."})
    static void edgeOfABowler() {
        for (int b = 0; b < 4; b++) {
            for (int s = 0; s < 4; s++) {
                ChangeBowler x = four();
                int bs = 10 * b + s;
                due("100 at first", x.edge(bs, 0, 500), 100);
                due("500 was told", x.edge(bs, 0, 0), 500);
                due("0 was told", x.edge(bs, 0, 1), 0);
                due("no other was meant", x.edge((bs + 10) % 40, 0, 100), 100);
                due("no other SORT was meant", x.edge(10 * b + (s + 1) % 4, 0, 100), 100);
                for (int v : new int[] {-1, 501, LEAST, MOST}) due("edge(" + bs + ",0," + v + ")", x.edge(bs, 0, v), VOID);
                due("it stays", x.edge(bs, 0, 1), 1);
            }
        }
    }

    @Says("and its RUNS more (-9 .. 9; 0 at first) to each")
    static void runsOfABowler() {
        for (int b = 0; b < 4; b++) {
            for (int s = 0; s < 4; s++) {
                ChangeBowler x = four();
                int bs = 10 * b + s;
                due("0 at first", x.edge(bs, 1, 9), 0);
                due("9 was told", x.edge(bs, 1, -9), 9);
                due("-9 was told", x.edge(bs, 1, -8), -9);
                due("RUNS", x.over(100 * b + 10 * s, 0, 1), 1);
                for (int v : new int[] {-10, 10, LEAST, MOST}) due("edge(" + bs + ",1," + v + ")", x.edge(bs, 1, v), VOID);
                due("it stays", x.edge(bs, 1, -8), -8);
            }
        }
    }

    @Says("(bs: 10 times the BOWLER, and the SORT)")
    static void whomEdgeMeans() {
        ChangeBowler x = two();
        for (int what = 0; what <= 1; what++) {
            due("the last SORT", x.edge(13, what, 5), what == 0 ? 100 : 0);
            for (int bs : new int[] {4, 9, 14, 19, 20, 23, -1, -10, LEAST, MOST}) due("edge(" + bs + ")", x.edge(bs, what, 5), VOID);
        }
        for (int what : new int[] {-1, 3, LEAST, MOST}) due("what " + what, x.edge(0, what, 5), VOID);
        due("two changes", x.count(4), 2);
    }

    @Says("OVERS (2; SORT any) becomes v: what it was.")
    static void oversOfAnySort() {
        ChangeBowler x = two();
        for (int s = 0; s <= 9; s++) due("SORT " + s, x.edge(10 + s, 2, s % 9), s == 0 ? 2 : (s - 1) % 9);
        due("the other's stay", x.edge(0, 2, 2), 2);
        for (int bs : new int[] {20, 29, 30, -1, -11, LEAST, MOST}) due("edge(" + bs + ",2,1)", x.edge(bs, 2, 1), VOID);
    }

    // ---- fields

    @Says("FIELDS 0 .. 3: for each SORT thousandths more of EDGE (-200 .. 200) and runs more (-9 .. 9) (0 at first; FIELD 0 is set at first)")
    static void fieldsNumbers() {
        for (int f = 0; f < 4; f++) {
            for (int s = 0; s < 4; s++) {
                ChangeBowler x = four();
                int fs = 10 * f + s;
                due("EDGE more is 0 at first", x.field(fs, 0, 200), 0);
                due("200 was told", x.field(fs, 0, -200), 200);
                due("-200 was told", x.field(fs, 0, 7), -200);
                due("runs more are 0 at first", x.field(fs, 1, 9), 0);
                due("9 was told", x.field(fs, 1, -9), 9);
                due("-9 was told", x.field(fs, 1, 2), -9);
                for (int v : new int[] {-201, 201, LEAST, MOST}) due("field(" + fs + ",0," + v + ")", x.field(fs, 0, v), VOID);
                for (int v : new int[] {-10, 10, LEAST, MOST}) due("field(" + fs + ",1," + v + ")", x.field(fs, 1, v), VOID);
                due("FIELD 0 is set at first", x.set(f), 0);
                due("EDGE more stays", x.over(10 * s, 0, 0), 107);
                due("runs more stay", x.over(10 * s, 0, 1), 11);
                due("to no other SORT", x.over(10 * ((s + 1) % 4), 0, 0), 100);
                due("in no other FIELD", x.set((f + 1) % 4), f);
                due("OUT there", x.over(10 * s, 0, 0), 100);
            }
        }
    }

    @Says("(fs: 10 times the FIELD, and the SORT)")
    static void whichFieldIsMeant() {
        ChangeBowler x = two();
        for (int what = 0; what <= 1; what++) {
            due("the last", x.field(33, what, 5), 0);
            for (int fs : new int[] {4, 9, 34, 39, 40, 43, -1, -10, LEAST, MOST}) due("field(" + fs + ")", x.field(fs, what, 5), VOID);
        }
        for (int what : new int[] {-1, 2, LEAST, MOST}) due("what " + what, x.field(0, what, 5), VOID);
        due("two changes", x.count(4), 2);
    }

    @Says("A FIELD is set: the one that was. BAD.")
    static void setting() {
        ChangeBowler x = new ChangeBowler();
        for (int f = 0; f < 4; f++) {
            due("the one that was", x.set(f), Math.max(0, f - 1));
            for (int no : new int[] {-1, 4, LEAST, MOST}) due("set(" + no + ")", x.set(no), BAD);
        }
        due("the last stays", x.set(3), 3);
        due("setting is no change", x.count(4), 0);
    }

    // ---- the tape

    @Says({"THE ORDER by THE TAPE (at most 80 bytes)", "n (1 .. 4) bytes come to THE TAPE, the lowest of v first: how many it has. BAD, FULL."})
    static void tapeIsFull() {
        for (int n = 1; n <= 4; n++) {
            ChangeBowler x = new ChangeBowler();
            for (int i = 1; i <= 19; i++) x.feed(4, 0);
            for (int i = 77; i <= 80 - n; i++) x.feed(1, 0);
            due("the last that have room", x.feed(n, 0), 80);
            x = new ChangeBowler();
            for (int i = 1; i <= 19; i++) x.feed(4, 0);
            for (int i = 77; i <= 81 - n; i++) x.feed(1, 0);
            due("one more is too many", x.feed(n, 0), FULL);
            due("none of them came", x.count(2), 81 - n);
            for (int no : new int[] {0, -1, 5, LEAST, MOST}) due("BAD is named first", x.feed(no, 0), BAD);
        }
    }

    @Says("n (1 .. 4) bytes come to THE TAPE, the lowest of v first: how many it has.")
    static void bytesOfATape() {
        int v = '3' | ':' << 8 | '1' << 16 | '2' << 24;
        int[] is = {BAD, 1, -102, 1, 1, BAD}, overs = {8, 8, 8, 1, 12, 8};
        for (int n = 0; n <= 5; n++) {
            ChangeBowler x = new ChangeBowler();
            due("feed(" + n + ")", x.feed(n, v), n < 1 || n > 4 ? BAD : n);
            due("bytes", x.count(2), n < 1 || n > 4 ? 0 : n);
            if (n < 1 || n > 4) continue;
            due("order", x.order(), is[n]);
            due("T", x.of(1), overs[n]);
        }
        ChangeBowler x = new ChangeBowler();
        due("the highest byte keeps no sign", x.feed(4, 0xB0303030), 4);
        due("it is none", x.order(), -103);
    }

    // ---- the order

    @Says("SORTS as digits 0 .. 3, 1 to 8 of them, one behind the other")
    static void sortsOfAnOrder() {
        String all = "";
        for (int n = 1; n <= 8; n++) {
            all += (char) ('0' + n % 4);
            ChangeBowler x = new ChangeBowler();
            due(all, order(x, all), n);
            due("how many", x.of(0), n);
            for (int i = 0; i < n; i++) due("SORT of " + i, x.of(10 + i), (i + 1) % 4);
            due("no more", x.of(10 + n), BAD);
        }
        due("none", order(new ChangeBowler(), ""), -100);
        due("none ahead of T", order(new ChangeBowler(), ":8"), -100);
        due("a ninth", order(new ChangeBowler(), "012301230"), -108);
        due("SORT 4", order(new ChangeBowler(), "34"), -101);
        due("what stands ahead of 0", order(new ChangeBowler(), "3/"), -101);
    }

    @Says("perhaps : T, how many overs there are (1 or 2 digits, 1 .. 12)")
    static void oversOfAnOrder() {
        for (int t = 1; t <= 12; t++) {
            ChangeBowler x = new ChangeBowler();
            due("0:" + t, order(x, "0:" + t), 1);
            due("T", x.of(1), t);
            if (t > 9) continue;
            due("0:0" + t, order(x, "0:0" + t), 1);
            due("T", x.of(1), t);
        }
        for (int t = 13; t <= 99; t++) due("0:" + t, order(new ChangeBowler(), "0:" + t), -102);
        due("0", order(new ChangeBowler(), "0:0"), -102);
        due("00", order(new ChangeBowler(), "0:00"), -102);
        due("three digits", order(new ChangeBowler(), "0:012"), -104);
    }

    @Says("perhaps r R, rain: thousandths (1 to 3 digits) that it ends behind any over")
    static void rainOfAnOrder() {
        String[] right = {"0", "1", "9", "00", "10", "99", "000", "001", "100", "999"};
        for (String r : right) {
            ChangeBowler x = new ChangeBowler();
            due("0r" + r, order(x, "0r" + r), 1);
            due("R", x.of(2), Integer.parseInt(r));
            due("0:3r" + r, order(x, "0:3r" + r), 1);
            due("R", x.of(2), Integer.parseInt(r));
            due("T", x.of(1), 3);
        }
        due("four digits", order(new ChangeBowler(), "0r1000"), -105);
        due("four digits behind T", order(new ChangeBowler(), "0:12r0000"), -108);
        due("T behind R", order(new ChangeBowler(), "0r5:3"), -103);
    }

    @Says("Without : T 8, without r 0.")
    static void withoutBoth() {
        ChangeBowler x = new ChangeBowler();
        order(x, "3:3r33");
        due("without r", order(x, "0:5"), 1);
        due("T", x.of(1), 5);
        due("R", x.of(2), 0);
        due("without :", order(x, "0r7"), 1);
        due("T", x.of(1), 8);
        due("R", x.of(2), 7);
        order(x, "3:3r33");
        due("without both", order(x, "0"), 1);
        due("T", x.of(1), 8);
        due("R", x.of(2), 0);
    }

    @Says("No blanks. Without : T 8, without r 0.")
    static void noBlanksInAnOrder() {
        String s = "01:12r345";
        for (int i = 0; i <= s.length(); i++) {
            // a blank ends a number; here none does that may not be
            due("a blank at " + i, order(new ChangeBowler(), s.substring(0, i) + " " + s.substring(i)), -100 - i);
        }
    }

    /** What may follow, and how it is answered: 1 an order, - a text that ends too early. */
    private static void follows(String ahead, String whole, String part, int numberAt) {
        for (int c = 0; c < 256; c++) {
            String s = ahead + (char) c;
            int want = -100 - ahead.length();
            if (whole.indexOf(c) >= 0) want = sortsIn(s);
            else if (part.indexOf(c) >= 0) want = -100 - s.length();
            else if (numberAt >= 0 && c >= '0' && c <= '9') want = -100 - numberAt;
            due("byte " + c + " behind '" + ahead + "'", order(new ChangeBowler(), s), want);
        }
    }

    private static int sortsIn(String s) {
        int n = 0;
        while (n < s.length() && s.charAt(n) >= '0' && s.charAt(n) <= '3') n++;
        return n;
    }

    @Says("FAULT: the place (from 0) of the first byte with which no text goes on")
    static void everyByteOfAnOrder() {
        String digits = "0123456789";
        follows("", "0123", "", -1);
        follows("3", "0123", ":r", -1);
        follows("0123012", "0123", ":r", -1);
        follows("01230123", "", ":r", -1);
        follows("0:", "123456789", "", 2);
        follows("0:1", "012", "r", 2);
        follows("0:9", "", "r", 2);
        follows("0:12", "", "r", -1);
        follows("0:05", "", "r", -1);
        follows("0r", digits, "", -1);
        follows("0r9", digits, "", -1);
        follows("0r99", digits, "", -1);
        follows("0r999", "", "", -1);
        follows("0:12r", digits, "", -1);
        follows("0:12r99", digits, "", -1);
        follows("0:12r999", "", "", -1);
    }

    @Says("(a number that may not be, also at the end of the text: its first digit; a digit too many: itself)")
    static void numbersThatMayNotBe() {
        String[] first = {"0:0", "0:00", "0:13", "0:20", "0:99", "0:0r5", "0:00r5", "0:13r5", "0:13x", "0:0x", "0:0:", "0:13r1000", "0:0r"};
        for (String s : first) due("'" + s + "'", order(new ChangeBowler(), s), -102);
        due("behind eight", order(new ChangeBowler(), "01230123:13"), -109);
        String[] many = {"0:121", "0:100", "0:012", "0:1200", "0:121r5"};
        for (String s : many) due("'" + s + "'", order(new ChangeBowler(), s), -104);
        due("of R", order(new ChangeBowler(), "0:5r1234"), -107);
        due("of SORTS", order(new ChangeBowler(), "0123012312"), -108);
    }

    @Says("the length, if it ends too early.")
    static void endsTooEarly() {
        String[] all = {"", "0:", "0r", "01230123:", "01230123r", "0:12r", "0:01r"};
        for (String s : all) due("'" + s + "'", order(new ChangeBowler(), s), -100 - s.length());
    }

    @Says("THE TAPE becomes THE ORDER: how many; -100 less its FAULT; THE TAPE is empty then. (THE BOOK is empty then; with a FAULT it and THE ORDER stay.)")
    static void becomesTheOrder() {
        ChangeBowler x = two();
        order(x, "213:7r77");
        booked(x, "01");
        due("a FAULT", order(x, "0:9r9x"), -105);
        due("THE TAPE is empty", x.count(2), 0);
        due("THE BOOK stays", x.count(3), 2);
        due("how many stay", x.of(0), 3);
        due("T stays", x.of(1), 7);
        due("R stays", x.of(2), 77);
        int[] sorts = {2, 1, 3};
        for (int i = 0; i < 3; i++) due("SORTS stay", x.of(10 + i), sorts[i]);
        due("nothing is a FAULT, too", x.order(), -100);
        due("THE BOOK stays", x.count(3), 2);
        due("the same order", order(x, "213:7r77"), 3);
        due("THE TAPE is empty", x.count(2), 0);
        due("THE BOOK is empty", x.count(3), 0);
        due("a shorter one", order(x, "3"), 1);
        due("the old ones are gone", x.of(11), BAD);
    }

    @Says("Of THE ORDER: 0 how many, 1 T, 2 R; 10 and i: the i-th's SORT. BAD.")
    static void ofTheOrder() {
        ChangeBowler x = new ChangeBowler();
        order(x, "32103210:12r999");
        int[] is = {8, 12, 999};
        for (int i = 0; i < 3; i++) due("of(" + i + ")", x.of(i), is[i]);
        for (int i = 0; i < 8; i++) due("of(" + (10 + i) + ")", x.of(10 + i), 3 - i % 4);
        for (int i : new int[] {-1, 3, 9, 18, 19, 100, LEAST, MOST}) due("of(" + i + ")", x.of(i), BAD);
        order(x, "2");
        due("the first", x.of(10), 2);
        due("no second", x.of(11), BAD);
    }

    // ---- states

    @Says({"A STATE: how many are out (w), overs done (o), who bowled last (b; none), STEPS of tiredness (0 .. 3) and overs bowled of each BOWLER.",
        "It begins with 0, 0, none, 0."})
    static void aStateBegins() {
        for (int b = 0; b < 4; b++) {
            ChangeBowler x = four();
            due("nobody bowled last: " + b, x.book(b, 0), 1);
        }
        ChangeBowler x = four();
        int told = x.rule(6, 0, 0);
        text(x, 0, "b=3&o=0&w=0&t=0&l=8");
        due("0, 0, 0, and all OVERS left", x.puts(told), 3);
    }

    @Says("It is ENDED, if all of THE ORDER are out")
    static void endedAsAllAreOut() {
        ChangeBowler x = four();
        int r = x.rule(0, 0, 0);
        order(x, "012");
        booked(x, "ab");
        due("one is left", x.puts(r), 0);
        due("WHOM", x.best(1), 0);
        booked(x, "a");
        due("all are out", x.puts(r), NOT);
        due("THE BEST", x.best(0), 0);
        due("WHOM", x.best(1), NOT);
        due("no over more", x.book(1, 0), STATE);
    }

    @Says("or T overs are done")
    static void endedAsOversAreDone() {
        ChangeBowler x = four();
        int r = x.rule(0, 0, 0);
        order(x, "0:3");
        booked(x, "01");
        due("one is left", x.puts(r), 0);
        booked(x, "0");
        due("all are done", x.puts(r), NOT);
        due("THE BEST", x.best(0), 0);
        due("WHOM", x.best(1), NOT);
        due("no over more", x.book(1, 0), STATE);
        order(x, "0:1");
        due("the only one", x.book(1, 0), 1);
        due("no second", x.book(0, 0), STATE);
    }

    @Says("or nobody may bowl. A BOWLER may bowl, if it has OVERS left and did not bowl last.")
    static void whoMayBowl() {
        ChangeBowler x = new ChangeBowler();
        int r = x.rule(0, 0, 0);
        due("there is none", x.puts(r), NOT);
        x.bowler(0, 0, 1);
        due("without OVERS", x.puts(r), NOT);
        due("it may not", x.book(0, 0), STATE);
        x.edge(0, 2, 2);
        due("with OVERS", x.puts(r), 0);
        due("it may", x.book(0, 0), 1);
        due("it bowled last", x.puts(r), NOT);
        due("nobody else", x.book(0, 0), STATE);
        x.bowler(1, 0, 1);
        due("another came", x.puts(r), 1);
        due("it bowled last", x.book(0, 0), STATE);
        due("the other", x.book(1, 0), 2);
        due("it rested", x.puts(r), 0);
        due("its second", x.book(0, 0), 3);
        due("the other has none left", x.puts(r), NOT);
        due("nor may it", x.book(1, 0), STATE);
        x.edge(10, 2, 2);
        due("one more", x.puts(r), 1);
        due("its second", x.book(1, 0), 4);
        due("the first has none left", x.book(0, 0), STATE);
        due("THE BEST", x.best(0), 0);
        due("WHOM", x.best(1), NOT);
    }

    // ---- an over

    @Says({"times (100 less TIRES times STEPS, 0 at least) / 100", "with so many STEPS (0 .. 3)"})
    static void tiredAtMost() {
        ChangeBowler x = new ChangeBowler();
        x.bowler(1, 33, 0);
        x.bowler(1, 34, 0);
        x.bowler(1, 50, 0);
        for (int b = 0; b < 3; b++) x.edge(10 * b, 0, 500);
        // without a TEXT a number below 0 could not be told from 0
        text(x, 1, "300");
        int[][] is = {{800, 635, 470, 305}, {800, 630, 460, 300}, {800, 550, 300, 300}};
        for (int b = 0; b < 3; b++) {
            for (int t = 0; t <= 3; t++) due("STEPS " + t + " of " + b, x.over(100 * b + t, 0, 0), is[b][t]);
            for (int t = 4; t <= 9; t++) due("STEPS " + t, x.over(100 * b + t, 0, 0), BAD);
        }
    }

    @Says("(cut toward 0)")
    static void cutTowardNought() {
        ChangeBowler x = new ChangeBowler();
        x.bowler(1, 50, 0);
        x.edge(0, 0, 3);
        due("3 * 50 / 100", x.over(1, 0, 0), 1);
        x.edge(0, 0, 0);
        x.field(0, 0, -1);
        text(x, 1, "10");
        due("-1 * 50 / 100", x.over(1, 0, 0), 10);
        x.field(0, 0, -3);
        due("-3 * 50 / 100", x.over(1, 0, 0), 9);
        x.field(0, 0, -2);
        due("-2 * 50 / 100", x.over(1, 0, 0), 9);
    }

    @Says("then as many thousandths more as THE TEXT of use 1 gives for the ball (none: 0; an int that wraps)")
    static void theBallsText() {
        ChangeBowler x = four();
        due("none", x.over(0, 0, 0), 100);
        text(x, 0, "50");
        due("the other use is not asked", x.over(0, 0, 0), 100);
        text(x, 1, "50");
        due("50 more", x.over(0, 0, 0), 150);
        text(x, 1, MOST_INT);
        due("100 and the greatest wrap", x.over(0, 0, 0), 0);
        x.edge(0, 0, 0);
        due("0 and the greatest", x.over(0, 0, 0), 1000);
        x.edge(0, 0, 1);
        due("1 and the greatest wrap", x.over(0, 0, 0), 0);
        x.edge(0, 0, 0);
        text(x, 1, LEAST_INT);
        due("0 and the least", x.over(0, 0, 0), 0);
        x.field(0, 0, -1);
        due("-1 and the least wrap", x.over(0, 0, 0), 1000);
    }

    @Says("held within 0 .. 1000")
    static void outIsHeld() {
        int[][] is = {{-101, 0}, {-100, 0}, {-99, 1}, {899, 999}, {900, 1000}, {901, 1000}, {9999, 1000}, {-9999, 0}};
        for (int[] one : is) {
            ChangeBowler x = four();
            text(x, 1, String.valueOf(one[0]));
            due("100 and " + one[0], x.over(0, 0, 0), one[1]);
        }
        ChangeBowler x = four();
        x.edge(0, 0, 200);
        x.field(0, 0, -200);
        due("200 and -200", x.over(0, 0, 0), 0);
        x.edge(0, 0, 199);
        due("199 and -200", x.over(0, 0, 0), 0);
        x.edge(0, 0, 201);
        due("201 and -200", x.over(0, 0, 0), 1);
        x.edge(0, 0, 500);
        x.field(0, 0, 200);
        due("the greatest without a TEXT", x.over(0, 0, 0), 700);
    }

    @Says("RUNS: COST, its RUNS to s, the FIELD's, and its STEPS; 0 at least.")
    static void runsAreHeld() {
        ChangeBowler x = new ChangeBowler();
        x.bowler(1, 0, 5);
        x.bowler(1, 0, 20);
        x.edge(0, 1, -9);
        int[][] is = {{3, 0}, {4, 0}, {5, 1}};
        for (int[] one : is) {
            x.field(0, 1, one[0]);
            due("5, -9 and " + one[0], x.over(0, 0, 1), one[1]);
        }
        x.field(0, 1, 2);
        due("STEPS count ahead of the holding", x.over(3, 0, 1), 1);
        due("with 2 of them", x.over(2, 0, 1), 0);
        x.edge(13, 1, 9);
        x.field(3, 1, 9);
        due("the most", x.over(133, 0, 1), 41);
    }

    private static ChangeBowler toldBy(String told) {
        ChangeBowler x = four();
        x.rule(6, 0, 0);
        order(x, "00000000:12");
        text(x, 0, told);
        return x;
    }

    @Says("Behind it: o is one more; w, if that one got out")
    static void behindAnOver() {
        ChangeBowler x = toldBy("b=o%4");
        for (int o = 0; o < 12; o++) {
            due("o " + o, x.puts(0), o % 4);
            x.book(o % 4, o % 3 == 0 ? 1 : 0);
        }
        x = toldBy("b=3&w=4|b=1&w=2|b=2&w=0");
        due("nobody is out", x.puts(0), 2);
        booked(x, "01");
        due("still nobody", x.puts(0), 2);
        booked(x, "ab");
        due("two are out", x.puts(0), 0);
        booked(x, "2");
        due("and still two", x.puts(0), 1);
        booked(x, "ac");
        due("four are out", x.puts(0), 3);
    }

    @Says("STEPS of who bowled one more (3 at most), of all others one less (0 at least).")
    static void stepsMend() {
        ChangeBowler x = toldBy("b=3?1;t*100");
        booked(x, "010101");
        due("who rested an over is fresh", x.puts(0), 3);
        x = toldBy("b=1?1;-t");
        booked(x, "2323");
        due("who rests on is not fresher", x.puts(0), 1);
        x = two();
        x.rule(0, 0, 0);
        x.edge(0, 0, 0);
        x.edge(10, 0, 0);
        order(x, "0:4");
        due("RUNS without STEPS: 3, 5, 3, 5", x.game(0, 1), 16);
    }

    @Says({"as if o overs were done and w were out (ow: 10 o and w; o 0 .. 12, w 0 .. 8).", "AN OVER at the beginning"})
    static void anOverAsIf() {
        ChangeBowler x = two();
        text(x, 1, "o*10+w");
        for (int o = 0; o <= 12; o++) {
            for (int w = 0; w <= 8; w++) due("w " + w, x.over(0, 10 * o + w, 0), 100 + 10 * o + w);
            due("w 9", x.over(0, 10 * o + 9, 0), BAD);
            due("RUNS, w 9", x.over(0, 10 * o + 9, 1), BAD);
        }
        for (int ow : new int[] {130, 138, -1, -10, LEAST, MOST}) due("ow " + ow, x.over(0, ow, 0), BAD);
        text(x, 1, "l*100");
        booked(x, "01");
        due("all OVERS are left at the beginning", x.over(0, 20, 0), 300);
    }

    @Says("bst: 100 BOWLER, 10 SORT, and STEPS. BAD.")
    static void whoseOver() {
        ChangeBowler x = two();
        x.edge(13, 0, 333);
        due("the last", x.over(133, 128, 0), 333 * 40 / 100);
        for (int bst : new int[] {4, 9, 40, 43, 99, 104, 140, 190, 200, 233, 1000, -1, -100, LEAST, MOST}) {
            due("over(" + bst + ",0,0)", x.over(bst, 0, 0), BAD);
            due("over(" + bst + ",0,1)", x.over(bst, 0, 1), BAD);
        }
        for (int what : new int[] {-1, 2, LEAST, MOST}) due("what " + what, x.over(0, 0, what), BAD);
    }
}
