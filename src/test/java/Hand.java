/** What the tests by hand share: telling orders and texts in few calls, and a small attack. */
final class Hand {
    private Hand() {
    }

    /** Four bytes a call, as an object is good for 512 calls only. */
    static void feed(ChangeBowler x, String s) {
        for (int i = 0; i < s.length(); i += 4) {
            int n = Math.min(4, s.length() - i), v = 0;
            for (int j = 0; j < n; j++) v |= s.charAt(i + j) << 8 * j;
            x.feed(n, v);
        }
    }

    static int order(ChangeBowler x, String s) {
        feed(x, s);
        return x.order();
    }

    static int text(ChangeBowler x, int use, String s) {
        feed(x, s);
        return x.text(use);
    }

    /** BOWLERS of 6 OVERS each, without TIRES, by their COST. */
    static ChangeBowler attack(String order, int... costs) {
        ChangeBowler x = new ChangeBowler();
        for (int cost : costs) x.bowler(6, 0, cost);
        order(x, order);
        return x;
    }

    /** EDGE of every BOWLER on every SORT. */
    static void edges(ChangeBowler x, int v) {
        for (int b = 0; b < x.count(0); b++) {
            for (int s = 0; s < 4; s++) x.edge(10 * b + s, 0, v);
        }
    }

    static int drawn(int z) {
        return z * 1103515245 + 12345;
    }

    static int lot(int z) {
        return (z >>> 8) % 1000;
    }

    /** A SEED from whose first draws these lots come; -1: any. */
    static int seedFor(int... lots) {
        for (int seed = 0;; seed++) {
            int z = seed, i = 0;
            while (i < lots.length) {
                z = drawn(z);
                if (lots[i] >= 0 && lot(z) != lots[i]) break;
                i++;
            }
            if (i == lots.length) return seed;
        }
    }
}
