/** Section 2 of the document and promises 8, 11 and 12, sentence by sentence. */
public final class RulesEdgesTest extends Edges {
    private static final String NAMES = "owsbtlpk", DIGITS = "0123456789", OPENING = "(!-", COMPARING = "<=>", JOINING = "+-*/%|&";

    public static void main(String[] args) throws Exception {
        runAll(RulesEdgesTest.class);
    }

    // ---- rules

    @Says({"RULES 0 .. 19, as they come", "A RULE of a KIND (0 .. 6): its number.", "BAD (a digit of the ROW above 4, or 0 in it), FULL."})
    static void twentyRules() {
        ChangeBowler x = new ChangeBowler();
        for (int i = 0; i < 20; i++) {
            due("not yet there", x.puts(i), BAD);
            due("its number", x.rule(i % 7, 0, 0), i);
            due("how many", x.count(1), i + 1);
        }
        due("one more", x.rule(0, 0, 0), FULL);
        due("BAD is named first: KIND", x.rule(7, 0, 0), BAD);
        due("BAD is named first: ROW", x.rule(0, 5, 0), BAD);
        due("BAD is named first: k", x.rule(0, 0, 13), BAD);
        due("twenty stay", x.count(1), 20);
        due("no RULE 20", x.act(20, 0, 5), 0);
        due("the last is there", x.act(19, 0, 5), 24);
    }

    @Says("A RULE of a KIND (0 .. 6): its number.")
    static void kinds() {
        ChangeBowler x = new ChangeBowler();
        for (int k = 0; k <= 6; k++) {
            due("KIND " + k, x.rule(k, 0, 0), k);
            x.keep(0, k);
            due("it is of that KIND", x.taken(0, 0), k);
        }
        for (int k : new int[] {-1, 7, LEAST, MOST}) due("KIND " + k, x.rule(k, 0, 0), BAD);
        due("none came", x.count(1), 7);
    }

    @Says({"Each has a ROW (digits 1 .. 4: BOWLERS and 1, up to 8 of them; 0: none)", "row: digits, the first the highest."})
    static void rows() {
        int[] right = {0, 1, 4, 11, 44, 41, 14, 123, 4321, 11111111, 44444444, 12341234};
        for (int row : right) due("ROW " + row, new ChangeBowler().rule(1, row, 0), 0);
        int[] wrong = {5, 9, 10, 40, 101, 150, 51, 15, 1023, 11111110, 11111115, 51111111, 10111111, 44444445, 111111111, 444444444, 100000000,
            1111111111, 2111111111, -1, -11, LEAST, MOST};
        for (int row : wrong) {
            ChangeBowler x = new ChangeBowler();
            due("ROW " + row, x.rule(1, row, 0), BAD);
            due("none came", x.count(1), 0);
        }
    }

    @Says("and a number k (0 .. 12)")
    static void numbersOfRules() {
        for (int k = 0; k <= 12; k++) {
            ChangeBowler x = Hand.attack("0", 1, 1);
            due("k " + k, x.rule(6, 0, k), 0);
            text(x, 0, "b=1&k=" + k);
            due("it is kept", x.puts(0), 1);
        }
        for (int k : new int[] {-1, 13, LEAST, MOST}) due("k " + k, new ChangeBowler().rule(0, 0, k), BAD);
    }

    @Says({"It PUTS ON, of BOWLERS that may bowl (of like ones the least)", "RULE: the least"})
    static void ofLikeOnesTheLeast() {
        ChangeBowler x = Hand.attack("0", 4, 4, 4, 4);
        for (int k = 0; k <= 6; k++) x.rule(k, 0, 0);
        for (int k = 0; k <= 6; k++) due("all alike, KIND " + k, x.puts(k), 0);
        booked(x, "0");
        for (int k = 0; k <= 6; k++) due("the least bowled last, KIND " + k, x.puts(k), 1);
        booked(x, "1");
        x.edge(0, 2, 1);
        for (int k = 0; k <= 6; k++) due("the least has none left, KIND " + k, x.puts(k), 2);
    }

    @Says("NOW: with the least (1000 times RUNS, less OUT) in the over to come")
    static void now() {
        ChangeBowler x = Hand.attack("0", 4, 5, 6);
        int now = x.rule(3, 0, 0);
        Hand.edges(x, 0);
        text(x, 1, "b*1000");
        due("4000 and 4000 and 5000", x.puts(now), 0);
        text(x, 1, "b=1?1000;b=0?1;0");
        due("3999 and 4000", x.puts(now), 0);
        text(x, 1, "b=0?0;b=1?1000;1000");
        x.edge(0, 1, 1);
        due("5000 and 4000 and 5000", x.puts(now), 1);
        x.edge(0, 1, 0);
        x.edge(20, 1, -2);
        due("4000 and 4000 and 3000", x.puts(now), 2);
        text(x, 1, "b=2?0;b=1?999;0");
        due("4000 and 4001 and 4000", x.puts(now), 0);
    }

    @Says("MATCH: with the greatest OUT")
    static void match() {
        ChangeBowler x = Hand.attack("01", 9, 1, 1, 1);
        int match = x.rule(5, 0, 0);
        x.edge(30, 0, 101);
        due("greater by one", x.puts(match), 3);
        x.edge(10, 0, 101);
        due("of like ones the least", x.puts(match), 1);
        text(x, 1, "b<3?2000;3000");
        due("held at 1000 they are alike", x.puts(match), 0);
        text(x, 1, "0-500-b");
        due("held at 0 they are alike", x.puts(match), 0);
        text(x, 1, "0");
        x.edge(21, 0, 500);
        booked(x, "a");
        due("the next one is in", x.puts(match), 2);
    }

    @Says("TURN: that of the ROW at place o % its length, if it may bowl, else (without a ROW, too) the least")
    static void turn() {
        int[] rows = {1, 21, 312, 1234, 43214321, 12121213};
        // by hand: where the ROW's one bowled last, the least other one
        String[] is = {"010101010101", "101010101010", "201201201201", "012301230123", "321032103210", "010101020101"};
        for (int i = 0; i < rows.length; i++) {
            ChangeBowler x = Hand.attack("0:12", 4, 4, 4, 4);
            for (int b = 0; b < 4; b++) x.edge(10 * b, 2, 8);
            int turn = x.rule(1, rows[i], 0);
            for (int o = 0; o < 12; o++) {
                int who = is[i].charAt(o) - '0';
                due("ROW " + rows[i] + " at over " + o, x.puts(turn), who);
                x.book(who, 0);
            }
            due("ENDED", x.puts(turn), NOT);
        }
        ChangeBowler x = Hand.attack("0", 4, 4);
        due("a BOWLER that is not there: the least", x.puts(x.rule(1, 4, 0)), 0);
        due("without a ROW the least", x.puts(x.rule(1, 0, 0)), 0);
        x.edge(10, 2, 0);
        due("one without OVERS: the least", x.puts(x.rule(1, 2, 0)), 0);
        booked(x, "0");
        due("nobody may", x.puts(0), NOT);
    }

    @Says("else (without a ROW, too) the least")
    static void withoutARow() {
        for (int last = 0; last < 4; last++) {
            ChangeBowler x = Hand.attack("0", 4, 4, 4, 4);
            for (int kind = 0; kind <= 6; kind++) x.rule(kind, 0, 12);
            x.book(last, 0);
            for (int kind = 0; kind <= 6; kind++) due("KIND " + kind + " behind " + last, x.puts(kind), last == 0 ? 1 : 0);
        }
    }

    @Says("KEEP: as TURN, but the ROW's first one not ahead of over k, unless no other may")
    static void keep() {
        for (int k = 0; k <= 12; k++) {
            ChangeBowler x = Hand.attack("0:12", 4, 4, 4);
            for (int b = 0; b < 3; b++) x.edge(10 * b, 2, 8);
            int keep = x.rule(4, 1, k), last = -1;
            for (int o = 0; o < 12; o++) {
                int who = o < k ? last == 1 ? 2 : 1 : last == 0 ? 1 : 0;
                due("k " + k + " at over " + o, x.puts(keep), who);
                x.book(who, 0);
                last = who;
            }
        }
        ChangeBowler x = Hand.attack("0:8", 4, 4, 4);
        int keep = x.rule(4, 312, 8), without = x.rule(4, 0, 8), none = x.rule(4, 41, 8);
        due("not its first, but the least other", x.puts(keep), 0);
        due("without a ROW", x.puts(without), 0);
        due("a first that is not there", x.puts(none), 0);
        booked(x, "1");
        due("its second by turn", x.puts(keep), 0);
        due("the second by turn of the other", x.puts(none), 0);
        x.edge(0, 2, 0);
        due("no other may", x.puts(keep), 2);
        booked(x, "2");
        due("another may", x.puts(keep), 1);
    }

    @Says("TOLD: with the greatest number by THE TEXT of use 0 (none: 0).")
    static void told() {
        ChangeBowler x = Hand.attack("0", 4, 4, 4);
        int told = x.rule(6, 0, 3);
        due("none", x.puts(told), 0);
        text(x, 1, "b");
        due("the other use is not asked", x.puts(told), 0);
        String[] texts = {"b", "-b", "0", "b=1", "-1-b", "b=0?0-1;0-2", "b=2?0-1;0-2", "b?" + LEAST_INT + ";" + MOST_INT, "b=1?" + MOST_INT + ";" + LEAST_INT,
            "b?" + MOST_INT + ";" + LEAST_INT, LEAST_INT, "b=2?" + LEAST_INT + "+1;" + LEAST_INT};
        int[] is = {2, 0, 0, 1, 0, 0, 2, 0, 1, 1, 0, 2};
        for (int i = 0; i < texts.length; i++) {
            due(texts[i], text(x, 0, texts[i]), 1);
            due("by " + texts[i], x.puts(told), is[i]);
        }
    }

    @Says("Whom a RULE PUTS ON in the STATE behind THE BOOK: the BOWLER. BAD, BIG; NOT: it is ENDED.")
    static void putsBehindTheBook() {
        ChangeBowler x = Hand.attack("01:9", 4, 4);
        for (int k = 0; k <= 6; k++) x.rule(k, 0, 0);
        for (int r : new int[] {-1, 7, LEAST, MOST}) due("puts(" + r + ")", x.puts(r), BAD);
        for (int k = 0; k <= 6; k++) due("9 overs, KIND " + k, x.puts(k), k == 2 ? BIG : 0);
        booked(x, "a");
        for (int k = 0; k <= 6; k++) due("8 overs, KIND " + k, x.puts(k), 1);
        order(x, "0:12");
        booked(x, "a");
        for (int k = 0; k <= 6; k++) due("11 overs and ENDED, KIND " + k, x.puts(k), k == 2 ? BIG : NOT);
        order(x, "00:12");
        booked(x, "010");
        for (int k = 0; k <= 6; k++) due("9 overs, KIND " + k, x.puts(k), k == 2 ? BIG : 1);
        booked(x, "b");
        for (int k = 0; k <= 6; k++) due("8 overs, KIND " + k, x.puts(k), 0);
        order(x, "0:12");
        booked(x, "010b");
        for (int k = 0; k <= 6; k++) due("8 overs and ENDED, KIND " + k, x.puts(k), NOT);
    }

    // ---- texts

    @Says("THE TAPE becomes the TEXT of a USE (0, 1): 1; -100 less its FAULT (with a FAULT the one ahead stays); THE TAPE is empty then. BAD (it stays).")
    static void becomesAText() {
        ChangeBowler x = Hand.attack("0", 4, 4);
        int told = x.rule(6, 0, 0);
        Hand.feed(x, "b*7");
        for (int use : new int[] {-1, 2, LEAST, MOST}) due("text(" + use + ")", x.text(use), BAD);
        due("THE TAPE stays", x.count(2), 3);
        due("use 1", x.text(1), 1);
        due("THE TAPE is empty", x.count(2), 0);
        due("it counts", x.over(100, 0, 0), 107);
        due("not for use 0", x.puts(told), 0);
        due("use 0", text(x, 0, "b*9"), 1);
        due("it counts", x.puts(told), 1);
        due("use 1 stays", x.over(100, 0, 0), 107);
        due("a FAULT", text(x, 1, "b*8x"), -103);
        due("THE TAPE is empty", x.count(2), 0);
        due("the one ahead stays", x.over(100, 0, 0), 107);
        due("a FAULT of use 0", text(x, 0, "-b-"), -103);
        due("the one ahead stays", x.puts(told), 1);
        due("nothing is a FAULT", x.text(0), -100);
        due("and of use 1", x.text(1), -100);
        due("the one ahead stays", x.over(100, 0, 0), 107);
        due("another", text(x, 1, "1"), 1);
        due("the one ahead is gone", x.over(100, 0, 0), 101);
    }

    /** What may follow: in whole a TEXT is had by it, in part one that ends too early; no other goes on. */
    private static void follows(String ahead, String whole, String part) {
        for (int c = 0; c < 256; c++) {
            String s = ahead + (char) c;
            int want = -100 - ahead.length();
            if (whole.indexOf(c) >= 0) want = 1;
            else if (part.indexOf(c) >= 0) want = -100 - s.length();
            due("byte " + c + " behind '" + ahead + "'", read(s), want);
        }
    }

    @Says({"LINES, one or more, parted by ; .", "LINE: E, or E ? E"})
    static void everyByteOfALine() {
        follows("", DIGITS + NAMES, OPENING);
        follows("o", "", JOINING + COMPARING + "?;");
        follows("o?", DIGITS + NAMES, OPENING);
        follows("o?w", "", JOINING + COMPARING + ";");
        follows("o;", DIGITS + NAMES, OPENING);
        follows("o?w;", DIGITS + NAMES, OPENING);
        follows("o?w;s", "", JOINING + COMPARING + "?;");
        follows("o;w;s?b", "", JOINING + COMPARING + ";");
    }

    @Says("E = A { | A }. A = B { & B }. B = S, or S < S, S = S, S > S. S = P { + P, - P }. P = O { * O, / O, % O }.")
    static void everyByteOfAnE() {
        for (char c : (JOINING + COMPARING).toCharArray()) follows("o" + c, DIGITS + NAMES, OPENING);
        for (char c : COMPARING.toCharArray()) {
            follows("o" + c + "w", "", JOINING + "?;");
            follows("o" + c + "w+s", "", JOINING + "?;");
            follows("o" + c + "w*s", "", JOINING + "?;");
            follows("o" + c + "w&s", "", JOINING + COMPARING + "?;");
            follows("o" + c + "w|s", "", JOINING + COMPARING + "?;");
            follows("(o" + c + "w)", "", JOINING + COMPARING + "?;");
            follows("(o" + c + "w", ")", JOINING);
        }
    }

    @Says("O = a number (1 to 4 digits), a NAME, ! O, - O, ( E ).")
    static void everyByteOfAnO() {
        String behind = JOINING + COMPARING + "?;";
        follows("1", DIGITS, behind);
        follows("12", DIGITS, behind);
        follows("123", DIGITS, behind);
        follows("1234", "", behind);
        follows("0000", "", behind);
        follows("o+1234", "", behind);
        for (char c : NAMES.toCharArray()) follows(String.valueOf(c), "", behind);
        for (char c : "!-".toCharArray()) follows(String.valueOf(c), DIGITS + NAMES, OPENING);
        follows("(", "", DIGITS + NAMES + OPENING);
        follows("(o", ")", JOINING + COMPARING);
        follows("(o)", "", behind);
        follows("((o)", ")", JOINING + COMPARING);
        follows("((o))", "", behind);
        follows("!o", "", behind);
        follows("-(o)", "", behind);
    }

    @Says("No blanks. NAMES: o overs done")
    static void noBlanksInAText() {
        String s = "o+12?(w<3);!-b";
        due(s, read(s), 1);
        for (int i = 0; i <= s.length(); i++) due("a blank at " + i, read(s.substring(0, i) + " " + s.substring(i)), -100 - i);
    }

    @Says("At most 6 of ( ! - ahead of an O are open at once.")
    static void sixAreOpen() {
        for (int n = 0; n < 729; n++) {
            StringBuilder open = new StringBuilder(), shut = new StringBuilder();
            for (int i = 0, m = n; i < 6; i++, m /= 3) {
                open.append(OPENING.charAt(m % 3));
                if (m % 3 == 0) shut.append(')');
            }
            due("six open: " + open, read(open + "o" + shut), 1);
            for (char c : OPENING.toCharArray()) due("a seventh: " + open + c, read(open.toString() + c + "o"), -106);
        }
        due("shut ones are not open", read("((((((o))))))+((((((o))))))"), 1);
        due("nor is ! behind its O", read("!o+!o+!o+!o+!o+!o+!o+!o"), 1);
        due("nor is - behind its O", read("-o*-o*-o*-o*-o*-o*-o*-o"), 1);
        due("- of two is not counted", read("o-((((((o))))))"), 1);
        due("but that behind it is", read("o--(((((o)))))"), 1);
        due("and makes a seventh", read("o--((((((o))))))"), -108);
        due("six within", read("!(!(!(o)+!!o))"), 1);
        due("seven within", read("!(!(!(o)+!!!o))"), -111);
        due("in the second E", read("o?((((((o))))))"), 1);
        due("seven there", read("o?(((((((o)))))))"), -108);
        due("in the next LINE", read("((((((o))))));((((((o))))))"), 1);
    }

    @Says("FAULT likewise, the length, if it ends too early.")
    static void textsThatEndTooEarly() {
        String[] all = {"", "o+", "o-", "o*", "o/", "o%", "o|", "o&", "o<", "o=", "o>", "(", "(o", "((o)", "!", "-", "!-(", "o?", "o;", "o?w;", "(o+", "((((((", "1+(1234"};
        for (String s : all) due("'" + s + "'", read(s), -100 - s.length());
        due("a fifth digit is a FAULT itself", read("1+(12345"), -107);
        due("a first FAULT counts", read("o)+;;"), -101);
    }

    /** An object whose over(113, 42, 0) shows what the ball's TEXT gives, as far as it is within 0 and 1000. */
    private static ChangeBowler bare() {
        ChangeBowler x = new ChangeBowler();
        x.bowler(1, 0, 0);
        x.bowler(5, 0, 0);
        x.edge(11, 0, 0);
        return x;
    }

    private static void gives(String s, int v) {
        ChangeBowler x = bare();
        due(s, text(x, 1, s), 1);
        due("what " + s + " gives", x.over(113, 42, 0), v);
    }

    /** That both are the same int, whichever it is. */
    private static void same(String a, String b) {
        gives("(" + a + ")=" + b, 1);
    }

    @Says({"NAMES: o overs done, w how many are out, s the SORT that is in, b the BOWLER, t its STEPS, l its OVERS left",
        "p OUT in the over to come (of use 0 alone; else 0), k of the RULE (of use 0; else 0)."})
    static void names() {
        gives("o", 4);
        gives("w", 2);
        gives("s", 1);
        gives("b", 1);
        gives("t", 3);
        gives("l", 5);
        gives("p", 0);
        gives("k", 0);
        ChangeBowler x = Hand.attack("01", 4, 4, 4);
        int one = x.rule(6, 0, 12), other = x.rule(6, 0, 0);
        x.edge(21, 0, 345);
        text(x, 1, "s*3");
        booked(x, "a");
        text(x, 0, "b=2&p=348&k=12&s=1&o=1&w=1&l=6&t=0");
        due("of use 0", x.puts(one), 2);
        due("k of the RULE", x.puts(other), 1);
        due("use 1 has neither p nor k", text(x, 1, "p+k"), 1);
        text(x, 0, "b=2&p=345");
        due("0 more", x.puts(one), 2);
        text(x, 1, "9999");
        text(x, 0, "b=2&p=1000");
        due("p is held, too", x.puts(one), 2);
        due("after use 0 was asked as well", x.over(210, 0, 0), 1000);
    }

    @Says("Ints that wrap; / and % toward 0, by 0 they give 0")
    static void intsThatWrap() {
        same(MOST_INT + "+1", LEAST_INT);
        same(LEAST_INT + "-1", MOST_INT);
        same("-(" + LEAST_INT + ")", LEAST_INT);
        same("8192*8*(8192*8)", "0");
        same("(" + LEAST_INT + ")/-1", LEAST_INT);
        same("(" + LEAST_INT + ")%-1", "0");
        same("7/2", "3");
        same("-7/2", "-3");
        same("7/-2", "-3");
        same("-7/-2", "3");
        same("7%2", "1");
        same("-7%2", "-1");
        same("7%-2", "1");
        same("-7%-2", "-1");
        String[] noughts = {"5/0", "5%0", "0/0", "0%0", "-5/0", "-5%0", "(" + LEAST_INT + ")/0", "(" + LEAST_INT + ")%0", "5/(3-3)", "9/5/0", "o/t%0"};
        for (String s : noughts) same(s, "0");
        gives("7+5/0", 7);
        gives("9/0+7%0+1", 1);
    }

    @Says("| & < = > ! give 1, 0; all is worked out.")
    static void onesAndNoughts() {
        String[] one = {"5|0", "0|5", "5|7", "0|-5", "-5|-5", "5&7", "-1&-1", "1<2", "-1<0", "2=2", "-2=-2", "2>1", "0>-1", "!0", "!!5", "!(5-5)",
            LEAST_INT + "<" + MOST_INT, MOST_INT + ">" + LEAST_INT, LEAST_INT + "=" + LEAST_INT, "1|5/0", "0|1|0", "7&8&9"};
        String[] nought = {"0|0", "5&0", "0&5", "0&0", "2<2", "3<2", "2=3", "-2=2", "2>2", "1>2", "!5", "!-5", "!!0", LEAST_INT + ">" + MOST_INT,
            MOST_INT + "<" + LEAST_INT, MOST_INT + "=" + LEAST_INT, "0&5/0", "7&0&9", "0|0|0"};
        for (String s : one) gives(s, 1);
        for (String s : nought) gives(s, 0);
    }

    @Says("S = P { + P, - P }. P = O { * O, / O, % O }.")
    static void whatBindsHow() {
        String[] all = {"1+2*3", "9-3-2", "100/5/2", "100/10%7", "7-2+1", "8*3/5", "2*3+4*5", "1|1&0", "0&1|1", "2&1<0", "1<2+3", "(1<2)+3", "!0+1", "!(0+1)",
            "-2+9", "9*-2+20", "-(2-9)", "2+3=5", "1=1&2=2", "5-!0", "2*(3+4)", "9-(3-2)", "1|0=0", "3>2|0&0"};
        int[] is = {7, 4, 10, 3, 6, 4, 26, 1, 1, 0, 1, 4, 2, 0, 7, 2, 7, 1, 1, 4, 14, 8, 1, 1};
        for (int i = 0; i < all.length; i++) gives(all[i], is[i]);
    }

    @Says({"E ? E (what counts if the first is not 0)", "The first LINE without a first E, or whose first E is not 0, counts; none: 0."})
    static void theLineThatCounts() {
        gives("0?9", 0);
        gives("1?9", 9);
        gives("-1?9", 9);
        gives("0?9;0?8", 0);
        gives("0?9;1?8;1?7", 8);
        gives("0?9;7", 7);
        gives("6;7", 6);
        gives("0;7", 0);
        gives("1?0;7", 0);
        gives("0?9;5;1?7", 5);
        gives("o=4?11;22", 11);
        gives("o<4?11;o>4?12;13", 13);
    }

    @Says("TEXTS of USES 0 (of TOLD), 1 (the ball), by THE TAPE")
    static void theLongestTexts() {
        StringBuilder sum = new StringBuilder("10"), lines = new StringBuilder(), bare = new StringBuilder("5");
        for (int i = 0; i < 39; i++) sum.append("+1");
        for (int i = 0; i < 19; i++) lines.append("0?1;");
        for (int i = 0; i < 39; i++) bare.append(";6");
        due("80 bytes", sum.length(), 80);
        gives(sum.toString(), 49);
        gives(lines + "0777", 777);
        gives(bare.toString(), 5);
        gives("0?(((((1+1)*2)*3)*4)*5);(1+(1+(1+(1+(1+(1))))));0;1;2;3;4;5;6;7;8;9;0;1;2;3;4;5", 6);
        ChangeBowler x = bare();
        Hand.feed(x, sum.toString());
        due("it is full", x.feed(1, '1'), FULL);
        due("and stands", x.text(1), 1);
        due("it counts", x.over(113, 42, 0), 49);
    }
}
