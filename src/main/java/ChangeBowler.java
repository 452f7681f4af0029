/** When to change the bowler: see README.md, and the document for what each call promises. */
public final class ChangeBowler {
    public static final int BAD = -1, NOT = -2, FULL = -3, BIG = -4, STATE = -5, VOID = -2000000000;

    private static final int NOTHING_THERE = -11, OTHER_KIND = -12, NO_PLACE = -13, SIZE_BELOW = -14;
    private static final int BOWLERS = 4, SORTS = 4, FIELDS = 4, MOST_STEPS = 3;
    private static final int FAR = 8;
    private static final int KINDS = 7, BEST_KIND = 2;
    private static final int THOUSAND = 1000, MILLION = 1000000;

    private final Numbers numbers;
    private final Reader reader;
    private final Order order;
    private final Text told, ball;
    private final Odds odds;
    private final Best best;
    private final Rules rules;
    private final Captain captain;
    private final Book book;
    private final Shelves shelves;
    private final int[] turned;

    public ChangeBowler() {
        numbers = new Numbers();
        reader = new Reader();
        order = new Order();
        told = new Text();
        ball = new Text();
        odds = new Odds(numbers, ball);
        best = new Best(odds, order);
        rules = new Rules();
        captain = new Captain(rules, odds, best, order, told);
        book = new Book();
        shelves = new Shelves(rules);
        turned = new int[Order.MOST];
    }

    // ---- bowlers, fields, the order

    public int bowler(int overs, int tires, int cost) {
        if (outside(overs, 0, 8) || outside(tires, 0, 50) || outside(cost, 0, 20)) return BAD;
        if (numbers.bowlers >= BOWLERS) return FULL;
        return numbers.join(overs, tires, cost);
    }

    public int edge(int bs, int what, int v) {
        int place = edgePlace(bs, what);
        if (place < 0 || outside(v, Numbers.lowest(place), Numbers.highest(place))) return VOID;
        return numbers.change(place, v);
    }

    public int field(int fs, int what, int v) {
        if (fs < 0 || outside(fs / 10, 0, FIELDS - 1) || outside(fs % 10, 0, SORTS - 1) || outside(what, 0, 1)) return VOID;
        int place = (what == 0 ? Numbers.FIELD_EDGE : Numbers.FIELD_RUNS) + fs / 10 * SORTS + fs % 10;
        if (outside(v, Numbers.lowest(place), Numbers.highest(place))) return VOID;
        return numbers.change(place, v);
    }

    public int set(int field) {
        if (outside(field, 0, FIELDS - 1)) return BAD;
        int was = numbers.field;
        numbers.field = field;
        return was;
    }

    public int feed(int n, int v) {
        if (outside(n, 1, 4)) return BAD;
        if (reader.size + n > Reader.MOST) return FULL;
        return reader.take(n, v);
    }

    public int order() {
        int fault = reader.readOrder(order);
        if (fault >= 0) return -100 - fault;
        book.size = 0;
        return order.size;
    }

    public int text(int use) {
        if (outside(use, 0, 1)) return BAD;
        int fault = reader.readText(use == 0 ? told : ball);
        if (fault >= 0) return -100 - fault;
        if (use == 1) odds.forget();
        return 1;
    }

    public int of(int what) {
        if (what == 0) return order.size;
        if (what == 1) return order.overs;
        if (what == 2) return order.rain;
        if (what < 10 || what - 10 >= order.size) return BAD;
        return order.sortAt(what - 10);
    }

    public int over(int bst, int ow, int what) {
        if (bst < 0 || ow < 0 || outside(what, 0, 1)) return BAD;
        int who = bst / 100, sort = bst / 10 % 10, steps = bst % 10;
        if (noBowler(who) || sort >= SORTS || steps > MOST_STEPS) return BAD;
        if (ow / 10 > 12 || ow % 10 > 8) return BAD;
        odds.lay(numbers.field);
        if (what == 1) return odds.runsOf(who, sort, steps);
        return odds.outOf(who, sort, steps, numbers.oversOf(who), ow / 10, ow % 10);
    }

    // ---- rules

    public int rule(int kind, int row, int k) {
        if (outside(kind, 0, KINDS - 1) || !Rules.rowIsRight(row) || outside(k, 0, 12)) return BAD;
        if (rules.size >= Rules.MOST) return FULL;
        return rules.make(kind, row, k);
    }

    public int puts(int rule) {
        if (noRule(rule)) return BAD;
        int o = book.size, w = book.outs(book.size);
        boolean byBest = rules.kindOf(rule) == BEST_KIND;
        if (byBest && order.overs - o > FAR) return BIG;
        int attack = book.attackAhead(o, numbers);
        if (order.ended(o, w, attack)) return NOT;
        odds.lay(numbers.field);
        if (byBest) best.seek(attack, o, w);
        return captain.putOn(rule, o, w, attack);
    }

    public int mean(int rule) {
        if (noRule(rule)) return BAD;
        if (order.overs > FAR) return BIG;
        makeReady(rule);
        return captain.meanFrom(rule, 0, 0, numbers.freshAttack());
    }

    public int likely(int rule, int runs) {
        if (noRule(rule) || outside(runs, 0, 999)) return BAD;
        if (order.overs > FAR) return BIG;
        makeReady(rule);
        return captain.likelyFrom(rule, 0, 0, numbers.freshAttack(), runs);
    }

    // ---- the best

    public int best(int what) {
        if (outside(what, 0, 1)) return BAD;
        int o = book.size, w = book.outs(book.size);
        if (order.overs - o > FAR) return BIG;
        int attack = book.attackAhead(o, numbers);
        if (order.ended(o, w, attack)) return what == 0 ? 0 : NOT;
        odds.lay(numbers.field);
        best.seek(attack, o, w);
        return what == 0 ? best.valueAt(0, w) : best.whomAt(0, w);
    }

    public int worth(int bowler, int what) {
        if (noBowler(bowler) || outside(what, 0, 1) || order.overs > FAR) return VOID;
        int fresh = numbers.freshAttack();
        int left = what == 0 ? 0 : numbers.oversOf(bowler) + 1;
        int other = bestOf(Attack.withLeft(fresh, bowler, left), numbers.field);
        int now = bestOf(fresh, numbers.field);
        return what == 0 ? other - now : now - other;
    }

    public int fielded(int field, int what) {
        if (outside(what, 0, 1) || what == 0 && outside(field, 0, FIELDS - 1)) return BAD;
        if (order.overs > FAR) return BIG;
        int attack = numbers.freshAttack(), at = 0, least = bestOf(attack, what == 0 ? field : 0);
        if (what == 0) return least;
        for (int f = 1; f < FIELDS; f++) {
            int v = bestOf(attack, f);
            if (v < least) {
                at = f;
                least = v;
            }
        }
        return at;
    }

    public int kept(int bowler) {
        if (noBowler(bowler)) return BAD;
        if (order.overs > FAR) return BIG;
        int attack = numbers.freshAttack();
        bestOf(attack, numbers.field);
        for (int o = 0; o < order.overs && !order.ended(o, 0, attack); o++) {
            int who = best.whomAt(best.nodeOf(attack, o), 0);
            if (who == bowler) return o;
            attack = Attack.after(attack, who);
        }
        return NOT;
    }

    public int theirs(int what) {
        if (outside(what, 0, 1)) return BAD;
        if (order.size > 5 || order.overs > FAR) return BIG;
        return turnOrder(what);
    }

    public int learn(int bs, int nk) {
        int place = edgePlace(bs, 0);
        if (place < 0 || outside(nk, 0, 9999) || nk % 100 > nk / 100) return BAD;
        int learnt = Math.min(500, THOUSAND * (nk % 100 + 1) / (nk / 100 + 2));
        numbers.change(place, learnt);
        return learnt;
    }

    // ---- the book, games

    public int book(int bowler, int out) {
        if (noBowler(bowler) || outside(out, 0, 1)) return BAD;
        if (!mayBeBooked(bowler)) return STATE;
        if (book.size >= Book.MOST) return FULL;
        return book.write(bowler, out);
    }

    public int books(int shelf, int i) {
        if (noShelf(shelf)) return BAD;
        if (!shelves.isEmpty(shelf) && shelves.sortOf(shelf) != Shelves.BYTES) return OTHER_KIND;
        book.size = 0;
        int length = shelves.lengthOf(shelf);
        if (i < 0 || i >= length) return 0;
        for (int p = i; p < length; p++) {
            int v = (int) shelves.elementAt(shelf, p);
            if (outside(v, 0, 19) || noBowler(v % 10) || !mayBeBooked(v % 10)) break;
            if (book.size >= Book.MOST) break;
            book.write(v % 10, v / 10);
        }
        return book.size;
    }

    public int close() {
        int had = book.size;
        book.size = 0;
        return had;
    }

    public int cost(int i) {
        if (outside(i, 0, book.size - 1) || order.overs - i > FAR) return VOID;
        return costOf(i);
    }

    public int lost(int what) {
        if (outside(what, 0, 2) || book.size == 0) return BAD;
        if (order.overs > FAR) return BIG;
        int at = 0, most = 0, sum = 0;
        for (int i = 0; i < book.size; i++) {
            int c = costOf(i);
            sum += c;
            if (i == 0 || c > most) {
                at = i;
                most = c;
            }
        }
        if (what == 0) return at;
        return what == 1 ? most : sum;
    }

    public int game(int rule, int seed) {
        if (noRule(rule)) return BAD;
        if (order.overs > FAR) return BIG;
        makeReady(rule);
        return captain.play(rule, seed, numbers.freshAttack());
    }

    public int led(int i, int what) {
        if (i == -1 && what == 0) return captain.played;
        if (outside(i, 0, captain.played - 1) || outside(what, 0, 2)) return BAD;
        return captain.ledAt(i, what);
    }

    public int undo() {
        return numbers.done == 0 ? STATE : numbers.stepBack();
    }

    public int redo() {
        return numbers.undone == 0 ? STATE : numbers.stepAgain();
    }

    // ---- acts, shelves

    public int act(int rule, int act, int x) {
        rules.ran = 0;
        if (noRule(rule) || outside(act, 0, 3)) return 0;
        return rules.runBody(rule, rules.kindOf(rule), act, x, 0);
    }

    public int trace(int i) {
        if (outside(i, 0, Math.min(rules.ran, Rules.KEPT) - 1)) return BAD;
        return rules.traceAt(i);
    }

    public int keep(int shelf, int rule) {
        if (noShelf(shelf) || rule != -1 && noRule(rule)) return BAD;
        shelves.hold(shelf, rule);
        return 1;
    }

    public int row(int shelf, int sort, int n) {
        if (noShelf(shelf) || outside(sort, 0, 4) || n > Shelves.LONGEST) return BAD;
        if (n < 0) return SIZE_BELOW;
        shelves.lay(shelf, sort, n);
        return 1;
    }

    public int put(int shelf, int i, long v) {
        if (noShelf(shelf)) return BAD;
        int refusal = shelves.refusal(shelf, i);
        if (refusal < 0) return refusal;
        shelves.write(shelf, i, v);
        return 1;
    }

    public long element(int shelf, int i) {
        if (noShelf(shelf) || shelves.refusal(shelf, i) < 0) return Long.MIN_VALUE;
        return shelves.elementAt(shelf, i);
    }

    public int shift(int shelf, int i, int other, int j, int n) {
        if (noShelf(shelf) || noShelf(other)) return BAD;
        if (shelves.isEmpty(shelf) || shelves.isEmpty(other)) return NOTHING_THERE;
        int sort = shelves.sortOf(shelf);
        if (sort == Shelves.NO_ROW || sort != shelves.sortOf(other)) return OTHER_KIND;
        if (n < 0 || i < 0 || j < 0) return NO_PLACE;
        if (n > shelves.lengthOf(shelf) - i || n > shelves.lengthOf(other) - j) return NO_PLACE;
        shelves.move(shelf, i, other, j, n);
        return n;
    }

    public int taken(int shelf, int k) {
        if (noShelf(shelf) || outside(k, 0, KINDS - 1)) return BAD;
        if (shelves.isEmpty(shelf)) return NOTHING_THERE;
        int rule = shelves.ruleOn(shelf);
        if (rule < 0 || !Rules.isUnder(rules.kindOf(rule), k)) return OTHER_KIND;
        return rules.kindOf(rule);
    }

    public int count(int what) {
        switch (what) {
            case 0: return numbers.bowlers;
            case 1: return rules.size;
            case 2: return reader.size;
            case 3: return book.size;
            case 4: return numbers.done;
            case 5: return rules.ran;
            default: return BAD;
        }
    }

    // ---- what the calls share

    private static boolean outside(int v, int low, int high) {
        return v < low || v > high;
    }

    private boolean noBowler(int bowler) {
        return outside(bowler, 0, numbers.bowlers - 1);
    }

    private boolean noRule(int rule) {
        return outside(rule, 0, rules.size - 1);
    }

    private static boolean noShelf(int shelf) {
        return outside(shelf, 0, Shelves.COUNT - 1);
    }

    /** The place of a BOWLER's number; -1: there is none. */
    private int edgePlace(int bs, int what) {
        if (bs < 0 || noBowler(bs / 10)) return -1;
        if (what == 2) return Numbers.OVERS + bs / 10;
        if (outside(what, 0, 1) || outside(bs % 10, 0, SORTS - 1)) return -1;
        return (what == 0 ? Numbers.EDGE : Numbers.RUNS) + bs / 10 * SORTS + bs % 10;
    }

    private boolean mayBeBooked(int bowler) {
        int o = book.size, attack = book.attackAhead(o, numbers);
        return !order.ended(o, book.outs(o), attack) && Attack.mayBowl(attack, bowler);
    }

    /** A RULE of KIND BEST looks its BOWLERS up in what was sought from the beginning. */
    private void makeReady(int rule) {
        odds.lay(numbers.field);
        if (rules.kindOf(rule) == BEST_KIND) best.seek(numbers.freshAttack(), 0, 0);
    }

    private int bestOf(int attack, int field) {
        odds.lay(field);
        best.seek(attack, 0, 0);
        return best.valueAt(0, 0);
    }

    /** The front turns fastest: what was judged for those behind it stands, and only the first ones are judged anew. */
    private int turnOrder(int what) {
        int attack = numbers.freshAttack(), digits = 0, most = -1, changed = order.size - 1;
        odds.lay(numbers.field);
        order.sortDown(turned);
        for (int n = 0; n < 120 && changed >= 0; n++) {
            best.seekFor(turned, attack, 0, 0, changed);
            int v = best.valueAt(0, 0), shown = Order.digits(turned, order.size);
            if (v > most || v == most && shown < digits) {
                most = v;
                digits = shown;
            }
            changed = Order.turnOn(turned, order.size);
        }
        return what == 0 ? digits : most;
    }

    private int costOf(int i) {
        int w = book.outs(i), attack = book.attackAhead(i, numbers), who = book.bowlerAt(i);
        if (order.ended(i, w, attack)) return 0;
        odds.lay(numbers.field);
        best.seek(attack, i, w);
        int least = best.valueAt(0, w);
        int ifOut = 0, ifNot = 0;
        int next = Attack.after(attack, who);
        if (i + 1 < order.overs) {
            best.seek(next, i + 1, w);
            ifOut = best.valueAt(0, w + 1);
            ifNot = best.valueAt(0, w);
        }
        int sort = order.sortAt(w), steps = Attack.steps(attack, who);
        int out = odds.outOf(who, sort, steps, book.leftAhead(i, who, numbers), i, w);
        return order.meanOf(odds.runsOf(who, sort, steps), out, ifOut, ifNot) - least;
    }

    /** Who bowled last, STEPS and OVERS left of each BOWLER, in one int: states are then cheap to tell apart. */
    private static final class Attack {
        static final int BITS = 27, MASK = (1 << BITS) - 1;
        private static final int STEPS_AT = 3, LEFT_AT = 11;

        static int last(int attack) {
            return (attack & 7) - 1;
        }

        static int steps(int attack, int bowler) {
            return attack >> STEPS_AT + 2 * bowler & 3;
        }

        static int left(int attack, int bowler) {
            return attack >> LEFT_AT + 4 * bowler & 15;
        }

        static int withSteps(int attack, int bowler, int steps) {
            int at = STEPS_AT + 2 * bowler;
            return attack & ~(3 << at) | (steps & 3) << at;
        }

        static int withLeft(int attack, int bowler, int left) {
            int at = LEFT_AT + 4 * bowler;
            return attack & ~(15 << at) | (left & 15) << at;
        }

        static boolean mayBowl(int attack, int bowler) {
            return bowler >= 0 && bowler < BOWLERS && left(attack, bowler) > 0 && last(attack) != bowler;
        }

        /** The least that may bowl; -1: nobody may. */
        static int first(int attack) {
            for (int b = 0; b < BOWLERS; b++) {
                if (mayBowl(attack, b)) return b;
            }
            return -1;
        }

        /** Behind an over of a BOWLER, who may have had no OVERS left. */
        static int after(int attack, int bowler) {
            if (bowler < 0 || bowler >= BOWLERS) return attack;
            int next = attack & ~7 | bowler + 1;
            for (int b = 0; b < BOWLERS; b++) {
                int s = steps(attack, b);
                next = withSteps(next, b, b == bowler ? Math.min(MOST_STEPS, s + 1) : Math.max(0, s - 1));
            }
            return withLeft(next, bowler, Math.max(0, left(attack, bowler) - 1));
        }
    }

    /** What is told of BOWLERS and FIELDS; those that can be UNDONE stand in one row, so that a change is a place in it. */
    private static final class Numbers {
        static final int EDGE = 0, RUNS = 16, OVERS = 32, FIELD_EDGE = 36, FIELD_RUNS = 52, ALL = 68;
        private static final int KEPT = 40;

        int bowlers, field, done, undone;
        private final int[] told = new int[ALL];
        private final int[] tires = new int[BOWLERS], costs = new int[BOWLERS];
        private final int[] places = new int[KEPT], befores = new int[KEPT], afters = new int[KEPT];

        static int lowest(int place) {
            if (place < RUNS || place >= OVERS && place < FIELD_EDGE) return 0;
            return place >= FIELD_EDGE && place < FIELD_RUNS ? -200 : -9;
        }

        static int highest(int place) {
            if (place < RUNS) return 500;
            if (place < OVERS) return 9;
            if (place < FIELD_EDGE) return 8;
            return place < FIELD_RUNS ? 200 : 9;
        }

        int join(int overs, int tire, int cost) {
            int b = bowlers;
            if (b >= BOWLERS) return FULL;
            tires[b] = tire;
            costs[b] = cost;
            told[OVERS + b] = overs;
            for (int s = 0; s < SORTS; s++) told[EDGE + b * SORTS + s] = 100;
            bowlers++;
            return b;
        }

        private int at(int place) {
            return place < 0 || place >= ALL ? 0 : told[place];
        }

        int oversOf(int bowler) {
            return at(OVERS + bowler);
        }

        int freshAttack() {
            int attack = 0;
            for (int b = 0; b < bowlers; b++) attack = Attack.withLeft(attack, b, oversOf(b));
            return attack;
        }

        int edgeIn(int f, int bowler, int sort) {
            return at(EDGE + bowler * SORTS + sort) + at(FIELD_EDGE + f * SORTS + sort);
        }

        int runsIn(int f, int bowler, int sort) {
            if (bowler < 0 || bowler >= BOWLERS) return 0;
            return costs[bowler] + at(RUNS + bowler * SORTS + sort) + at(FIELD_RUNS + f * SORTS + sort);
        }

        int freshness(int bowler, int steps) {
            if (bowler < 0 || bowler >= BOWLERS) return 0;
            return Math.max(0, 100 - tires[bowler] * steps);
        }

        int change(int place, int v) {
            if (place < 0 || place >= ALL) return VOID;
            int was = told[place];
            if (was == v) return was;
            if (done >= KEPT) dropOldest();
            places[done] = place;
            befores[done] = was;
            afters[done] = v;
            done++;
            undone = 0;
            told[place] = v;
            return was;
        }

        private void dropOldest() {
            for (int i = 1; i < KEPT; i++) {
                places[i - 1] = places[i];
                befores[i - 1] = befores[i];
                afters[i - 1] = afters[i];
            }
            done = KEPT - 1;
        }

        int stepBack() {
            if (done <= 0 || done > KEPT) return STATE;
            done--;
            undone++;
            told[places[done]] = befores[done];
            return done;
        }

        int stepAgain() {
            if (undone <= 0 || done >= KEPT) return STATE;
            told[places[done]] = afters[done];
            done++;
            undone--;
            return undone;
        }
    }

    /** THE ORDER, how many overs there are, and rain. */
    private static final class Order {
        static final int MOST = 8;

        int size = 1, overs = 8, rain;
        final int[] sorts = new int[MOST];

        int sortAt(int i) {
            return i < 0 || i >= MOST ? 0 : sorts[i];
        }

        boolean ended(int o, int w, int attack) {
            return w >= size || o >= overs || Attack.first(attack) < 0;
        }

        /** MEAN in thousandths from here, by the MEANS of the two STATES behind the over. */
        int meanOf(int runs, int out, int ifOut, int ifNot) {
            int behind = (out * ifOut + (THOUSAND - out) * ifNot) / THOUSAND;
            return runs * THOUSAND + (THOUSAND - rain) * behind / THOUSAND;
        }

        void sortDown(int[] to) {
            int n = 0;
            for (int s = SORTS - 1; s >= 0; s--) {
                for (int i = 0; i < size; i++) {
                    if (sorts[i] == s && n < to.length) to[n++] = s;
                }
            }
        }

        static int digits(int[] line, int size) {
            int v = 0;
            for (int i = 0; i < size && i < line.length; i++) v = v * 10 + line[i];
            return v;
        }

        /** The next order, as digits read from behind: the last place that changed; -1: there is none. */
        static int turnOn(int[] line, int size) {
            int n = Math.min(size, line.length), i = 1;
            while (i < n && line[i] >= line[i - 1]) i++;
            if (i >= n) return -1;
            int j = 0;
            while (j < i && line[j] <= line[i]) j++;
            swap(line, i, j);
            for (int a = 0, z = i - 1; a < z; a++, z--) swap(line, a, z);
            return i;
        }

        private static void swap(int[] line, int a, int z) {
            int was = line[a];
            line[a] = line[z];
            line[z] = was;
        }
    }

    /** A TEXT as code behind its operands: numbers stand for themselves, all else is above them. */
    private static final class Text {
        static final int MOST = 160;
        static final int NAME = 10000, SIGN = 20000;
        static final int LEFT_NAME = 5, NAMES = 8;
        static final char LESS_SIGN = '~';

        int length, named;
        final int[] code = new int[MOST], names = new int[NAMES];
        private final int[] stack = new int[MOST];

        void begin() {
            length = 0;
            named = 0;
        }

        void add(int word) {
            if (length >= MOST) return;
            code[length++] = word;
            if (word >= NAME && word < NAME + NAMES) named |= 1 << word - NAME;
        }

        void copyFrom(Text other) {
            length = other.length;
            named = other.named;
            System.arraycopy(other.code, 0, code, 0, length);
        }

        boolean uses(int name) {
            return (named >> name & 1) != 0;
        }

        void say(int o, int w, int s, int b, int t, int l) {
            names[0] = o;
            names[1] = w;
            names[2] = s;
            names[3] = b;
            names[4] = t;
            names[LEFT_NAME] = l;
        }

        void sayChance(int p, int k) {
            names[6] = p;
            names[7] = k;
        }

        /** What it gives for the names as they were said; without code 0. */
        int worked() {
            int top = 0;
            for (int at = 0; at < length; at++) {
                int word = code[at];
                if (word < SIGN) {
                    if (top >= MOST) return 0;
                    stack[top++] = word < NAME ? word : names[word - NAME & NAMES - 1];
                } else if (top < 1 || word == SIGN + ';') {
                    return top < 1 ? 0 : stack[top - 1];
                } else if (word == SIGN + '?') {
                    boolean counts = stack[top - 1] != 0;
                    top = 0;
                    at++;
                    if (!counts && at < length) at = Math.max(at, code[at] - 1);
                } else if (word == SIGN + '!') {
                    stack[top - 1] = stack[top - 1] == 0 ? 1 : 0;
                } else if (word == SIGN + LESS_SIGN) {
                    stack[top - 1] = -stack[top - 1];
                } else if (top > 1) {
                    top--;
                    stack[top - 1] = joined(word - SIGN, stack[top - 1], stack[top]);
                }
            }
            return 0;
        }

        private static int joined(int sign, int x, int y) {
            switch (sign) {
                case '|': return x != 0 || y != 0 ? 1 : 0;
                case '&': return x != 0 && y != 0 ? 1 : 0;
                case '<': return x < y ? 1 : 0;
                case '=': return x == y ? 1 : 0;
                case '>': return x > y ? 1 : 0;
                case '+': return x + y;
                case '-': return x - y;
                case '*': return x * y;
                case '/': return y == 0 ? 0 : x / y;
                case '%': return y == 0 ? 0 : x % y;
                default: return 0;
            }
        }
    }

    /** THE TAPE, and both grammars that are read from it. */
    private static final class Reader {
        static final int MOST = 80;
        private static final int NONE = -1, END = -1, OPEN = 6, LEVELS = 5;

        int size;
        private int at, fault;
        private final int[] tape = new int[MOST];
        private final int[] sorts = new int[Order.MOST];
        private final Text made = new Text();

        int take(int n, int v) {
            for (int i = 0; i < n && i < 4 && size < MOST; i++) tape[size++] = v >>> 8 * i & 255;
            return size;
        }

        private void begin() {
            at = 0;
            fault = NONE;
        }

        /** The FAULT, or -1; THE TAPE is empty either way. */
        private int end() {
            if (fault == NONE && at < size) fault = at;
            size = 0;
            return fault;
        }

        private int sign() {
            return at >= 0 && at < size ? tape[at] : END;
        }

        private static boolean isDigit(int sign) {
            return sign >= '0' && sign <= '9';
        }

        private void fail(int place) {
            if (fault == NONE) fault = place;
        }

        private boolean skip(int sign) {
            if (fault != NONE || sign() != sign) return false;
            at++;
            return true;
        }

        /** A digit too many is left where it is: no text goes on with it. */
        private int number(int most) {
            if (!isDigit(sign())) fail(at);
            int v = 0;
            for (int n = 0; n < most && isDigit(sign()); n++) v = v * 10 + tape[at++] - '0';
            return v;
        }

        int readOrder(Order order) {
            begin();
            int n = 0, overs = 8, rain = 0;
            while (n < Order.MOST && sign() >= '0' && sign() <= '3') sorts[n++] = tape[at++] - '0';
            if (n == 0) fail(at);
            if (skip(':')) {
                int first = at;
                overs = number(2);
                if (overs < 1 || overs > 12) fail(first);
            }
            if (skip('r')) rain = number(3);
            int found = end();
            if (found != NONE) return found;
            order.size = n;
            order.overs = overs;
            order.rain = rain;
            System.arraycopy(sorts, 0, order.sorts, 0, n);
            return NONE;
        }

        int readText(Text to) {
            begin();
            made.begin();
            readLine();
            for (int n = 0; n < MOST && skip(';'); n++) readLine();
            int found = end();
            if (found == NONE) to.copyFrom(made);
            return found;
        }

        private void readLine() {
            part(0, 0);
            int jump = NONE;
            if (skip('?')) {
                made.add(Text.SIGN + '?');
                jump = made.length;
                made.add(0);
                part(0, 0);
            }
            made.add(Text.SIGN + ';');
            if (jump >= 0 && jump < Text.MOST) made.code[jump] = made.length;
        }

        /** How loosely a sign binds, 0 the loosest; LEVELS: it joins nothing. */
        private static int levelOf(int sign) {
            switch (sign) {
                case '|': return 0;
                case '&': return 1;
                case '<': case '=': case '>': return 2;
                case '+': case '-': return 3;
                case '*': case '/': case '%': return 4;
                default: return LEVELS;
            }
        }

        private void part(int level, int depth) {
            if (level >= LEVELS) {
                operand(depth);
                return;
            }
            part(level + 1, depth);
            for (int n = 0; n < MOST && fault == NONE && levelOf(sign()) == level; n++) {
                int sign = sign();
                at++;
                part(level + 1, depth);
                made.add(Text.SIGN + sign);
                // two are compared once: no text goes on with a second sign of that level
                if (level == 2) return;
            }
        }

        private void operand(int depth) {
            if (fault != NONE) return;
            int sign = sign();
            if (isDigit(sign)) {
                made.add(number(4));
            } else if (nameOf(sign) >= 0) {
                made.add(Text.NAME + nameOf(sign));
                at++;
            } else if (depth < OPEN && (sign == '!' || sign == '-')) {
                at++;
                operand(depth + 1);
                made.add(Text.SIGN + (sign == '!' ? '!' : Text.LESS_SIGN));
            } else if (depth < OPEN && sign == '(') {
                at++;
                part(0, depth + 1);
                if (!skip(')')) fail(at);
            } else {
                fail(at);
            }
        }

        private static int nameOf(int sign) {
            switch (sign) {
                case 'o': return 0;
                case 'w': return 1;
                case 's': return 2;
                case 'b': return 3;
                case 't': return 4;
                case 'l': return Text.LEFT_NAME;
                case 'p': return 6;
                case 'k': return 7;
                default: return -1;
            }
        }
    }

    /** OUT and RUNS of an over, in the FIELD that was laid last. */
    private static final class Odds {
        private static final int STEPS = MOST_STEPS + 1, ROWS = BOWLERS * SORTS * STEPS;
        private static final int SLOT_BITS = 12, SLOTS = 1 << SLOT_BITS, KEY_BITS = 19;
        /** Where o, w, s, b, t, l stand in a key. */
        private static final int[] NAME_BITS = {0xF0, 0xF, 0xC00, 0x3000, 0x300, 0x7C000};

        final Text ball;
        private final Numbers numbers;
        private final int[] outs = new int[ROWS], runs = new int[ROWS];
        private final int[] keys = new int[SLOTS], gifts = new int[SLOTS];
        private int texts = 1, asked;

        Odds(Numbers numbers, Text ball) {
            this.numbers = numbers;
            this.ball = ball;
        }

        void lay(int field) {
            for (int b = 0; b < BOWLERS; b++) {
                for (int s = 0; s < SORTS; s++) {
                    int edge = numbers.edgeIn(field, b, s), more = numbers.runsIn(field, b, s);
                    for (int t = 0; t < STEPS; t++) {
                        outs[(b * SORTS + s) * STEPS + t] = edge * numbers.freshness(b, t) / 100;
                        runs[(b * SORTS + s) * STEPS + t] = Math.max(0, more + t);
                    }
                }
            }
        }

        /** What the ball's TEXT gave is kept by key; a new TEXT makes all keys new, and they tell only what it names. */
        void forget() {
            texts++;
            asked = 0;
            for (int n = 0; n < NAME_BITS.length; n++) {
                if (ball.uses(n)) asked |= NAME_BITS[n];
            }
        }

        int runsOf(int bowler, int sort, int steps) {
            int row = (bowler * SORTS + sort) * STEPS + steps;
            return row < 0 || row >= ROWS ? 0 : runs[row];
        }

        int outOf(int bowler, int sort, int steps, int left, int o, int w) {
            int row = (bowler * SORTS + sort) * STEPS + steps;
            if (row < 0 || row >= ROWS) return 0;
            int out = outs[row];
            if (ball.length > 0) {
                int key = texts << KEY_BITS | ((left & 31) << 14 | row << 8 | (o & 15) << 4 | w & 15) & asked;
                int slot = key * -1640531527 >>> 32 - SLOT_BITS;
                if (keys[slot] != key) {
                    ball.say(o, w, sort, bowler, steps, left);
                    gifts[slot] = ball.worked();
                    keys[slot] = key;
                }
                out += gifts[slot];
            }
            return out < 0 ? 0 : Math.min(out, THOUSAND);
        }
    }

    /** THE BEST from a STATE: all that may follow as nodes, level by level, judged from the end back for every w at once. */
    private static final class Best {
        /** Who may bowl has rested, so STEPS part no two STATES: 333 nodes at most stand within FAR overs. */
        private static final int NODES = 350, NIL = NODES, WIDE = Order.MOST + 1;
        private static final int SLOT_BITS = 10, SLOTS = 1 << SLOT_BITS;

        private final Odds odds;
        private final Order order;
        private final int[] keys = new int[NODES], next = new int[NODES * BOWLERS];
        private final int[] values = new int[(NODES + 1) * WIDE], whoms = new int[(NODES + 1) * WIDE];
        private final int[] slots = new int[SLOTS], slotOf = new int[NODES];
        private int nodes, root = -1, start, levels;
        private boolean exact;

        Best(Odds odds, Order order) {
            this.odds = odds;
            this.order = order;
        }

        void seek(int attack, int o, int w) {
            seekFor(order.sorts, attack, o, w, order.size - 1);
        }

        /** Judges w and w + 1 at the STATE itself: a book's over ahead of it wants both. */
        void seekFor(int[] line, int attack, int o, int w, int last) {
            grow(attack, o);
            for (int i = nodes - 1; i >= 0; i--) judge(i, line, w, last);
        }

        int valueAt(int node, int w) {
            return node < 0 || node >= nodes || w < 0 || w >= order.size ? 0 : values[node * WIDE + w];
        }

        int whomAt(int node, int w) {
            return node < 0 || node >= nodes || w < 0 || w >= order.size ? -1 : whoms[node * WIDE + w];
        }

        int nodeOf(int attack, int o) {
            int d = o - start;
            if (d < 0 || d >= levels) return -1;
            int slot = slotFor(trimmed(attack, levels - d) | d << Attack.BITS);
            return slot < 0 || !isTaken(slot) ? -1 : slots[slot];
        }

        private void grow(int attack, int o) {
            int far = Math.max(0, Math.min(FAR, order.overs - o));
            boolean counts = odds.ball.uses(Text.LEFT_NAME);
            if (root == attack && levels == far && exact == counts) {
                start = o;
                return;
            }
            root = attack;
            start = o;
            levels = far;
            exact = counts;
            nodes = 0;
            add(attack, 0);
            for (int i = 0; i < nodes && i < NODES; i++) {
                int from = keys[i] & Attack.MASK, d = keys[i] >> Attack.BITS;
                for (int b = 0; b < BOWLERS; b++) {
                    next[i * BOWLERS + b] = Attack.mayBowl(from, b) ? add(Attack.after(from, b), d + 1) : -1;
                }
            }
        }

        /** The node of a STATE; NIL where no over is left. */
        private int add(int attack, int d) {
            if (d >= levels) return NIL;
            int key = trimmed(attack, levels - d) | d << Attack.BITS;
            int slot = slotFor(key);
            if (slot < 0) return NIL;
            if (isTaken(slot)) return slots[slot];
            if (nodes >= NODES) return NIL;
            keys[nodes] = key;
            slotOf[nodes] = slot;
            slots[slot] = nodes;
            return nodes++;
        }

        /** Slots are never cleared: one counts only if its node points back to it. */
        private boolean isTaken(int slot) {
            int node = slots[slot];
            return node < nodes && slotOf[node] == slot;
        }

        /** Where a key stands, or would stand. */
        private int slotFor(int key) {
            int slot = key * -1640531527 >>> 32 - SLOT_BITS;
            for (int n = 0; n < SLOTS; n++) {
                int s = slot + n & SLOTS - 1;
                if (!isTaken(s) || keys[slots[s]] == key) return s;
            }
            return -1;
        }

        /** Drops what nothing behind can tell: OVERS that cannot be bowled any more (the last over's OUT, too), STEPS of who will not bowl. */
        private int trimmed(int attack, int overs) {
            int to = attack;
            for (int b = 0; b < BOWLERS; b++) {
                int left = Attack.left(attack, b);
                int most = (Attack.last(attack) == b ? overs : overs + 1) / 2;
                if ((!exact || overs <= 1) && left > most) {
                    left = most;
                    to = Attack.withLeft(to, b, left);
                }
                if (left == 0) to = Attack.withSteps(to, b, 0);
            }
            return to;
        }

        private void judge(int node, int[] line, int from, int last) {
            int attack = keys[node] & Attack.MASK, d = keys[node] >> Attack.BITS, row = node * WIDE;
            int first = Math.max(0, from), end = Math.min(Math.min(last, line.length - 1), from + 1 + d);
            for (int w = first; w <= end; w++) {
                values[row + w] = 0;
                whoms[row + w] = -1;
            }
            values[row + order.size] = 0;
            for (int b = 0; b < BOWLERS; b++) {
                int to = next[node * BOWLERS + b] * WIDE;
                if (to < 0) continue;
                int steps = Attack.steps(attack, b), left = Attack.left(attack, b);
                for (int w = first; w <= end; w++) {
                    int runs = odds.runsOf(b, line[w], steps);
                    int out = odds.outOf(b, line[w], steps, left, start + d, w);
                    int mean = order.meanOf(runs, out, values[to + w + 1], values[to + w]);
                    if (whoms[row + w] < 0 || mean < values[row + w]) {
                        values[row + w] = mean;
                        whoms[row + w] = b;
                    }
                }
            }
        }
    }

    /** RULES as they came, and their ACTS: which body runs is looked up by KIND, as a host would. */
    private static final class Rules {
        static final int MOST = 20, KEPT = 24;
        private static final int ACTS = 4, PUTS = 0, HOLDS = 1, GIVES = 2, TELLS = 3, DEEP = 40;
        private static final int[] ABOVE = {-1, 0, 0, 2, 1, 3, 0};
        private static final int[] BODIES = {
            1, 10, 11, 2,
            20, 0, 0, 0,
            0, 0, 30, 0,
            0, 40, 0, 0,
            50, 0, 0, 51,
            0, 0, 60, 0,
            0, 70, 0, 0
        };

        int size, ran;
        private final int[] kinds = new int[MOST], rows = new int[MOST], numbers = new int[MOST];
        private final int[] bodies = new int[KEPT];

        static boolean rowIsRight(int row) {
            if (row < 0 || row > 99999999) return false;
            for (int r = row, n = 0; r > 0 && n < 8; r /= 10, n++) {
                if (r % 10 < 1 || r % 10 > BOWLERS) return false;
            }
            return true;
        }

        /** The KIND above one; -1: none is. */
        static int above(int kind) {
            return kind < 0 || kind >= KINDS ? -1 : ABOVE[kind];
        }

        static boolean isUnder(int kind, int other) {
            int k = kind;
            for (int n = 0; n < KINDS && k >= 0; n++) {
                if (k == other) return true;
                k = above(k);
            }
            return false;
        }

        int make(int kind, int row, int k) {
            if (size >= MOST) return FULL;
            kinds[size] = kind;
            rows[size] = row;
            numbers[size] = k;
            return size++;
        }

        int kindOf(int rule) {
            return rule < 0 || rule >= size ? 0 : kinds[rule];
        }

        int numberOf(int rule) {
            return rule < 0 || rule >= size ? 0 : numbers[rule];
        }

        /** The BOWLER of the ROW at a place, going round; -1: there is no ROW. */
        int turnOf(int rule, int place) {
            if (rule < 0 || rule >= size || rows[rule] <= 0 || place < 0) return -1;
            int length = 0;
            for (int r = rows[rule]; r > 0 && length < 8; r /= 10) length++;
            int row = rows[rule];
            if (length == 0) return -1;
            for (int behind = length - 1 - place % length; behind > 0; behind--) row /= 10;
            return row % 10 - 1;
        }

        int traceAt(int i) {
            return i < 0 || i >= KEPT ? BAD : bodies[i];
        }

        /** Runs the body of a KIND, or of the next above that has one. */
        int runBody(int rule, int kind, int act, int x, int depth) {
            if (act < 0 || act >= ACTS || depth >= DEEP) return 0;
            int from = kind;
            for (int n = 0; n < KINDS && from >= 0 && from < KINDS; n++) {
                int body = BODIES[from * ACTS + act];
                if (body != 0) return bodyOf(rule, body, from, x, depth + 1);
                from = above(from);
            }
            return 0;
        }

        private int bodyOf(int rule, int body, int from, int x, int depth) {
            if (ran < KEPT) bodies[ran] = body;
            ran++;
            int own = kindOf(rule), over = above(from);
            switch (body) {
                case 1: return x + rule;
                case 2: return runBody(rule, own, HOLDS, x, depth) - runBody(rule, own, GIVES, 1, depth);
                case 10: return runBody(rule, own, PUTS, x, depth) * 2;
                case 11: return x ^ rule;
                case 20: return runBody(rule, over, PUTS, x, depth) + 3;
                case 30: return runBody(rule, over, GIVES, x, depth) * 3;
                case 40: return -runBody(rule, over, HOLDS, x, depth);
                case 50: return runBody(rule, over, PUTS, x + 1, depth);
                case 51: return runBody(rule, over, TELLS, x, depth) ^ 5;
                case 60: return runBody(rule, over, GIVES, x, depth) - runBody(rule, own, PUTS, 2, depth);
                case 70: return runBody(rule, over, HOLDS, x, depth) + runBody(rule, own, GIVES, 1, depth);
                default: return 0;
            }
        }
    }

    /** Puts BOWLERS on by a RULE, and tells what comes of it. */
    private static final class Captain {
        private final Rules rules;
        private final Odds odds;
        private final Best best;
        private final Order order;
        private final Text told;
        private final int[] leaders = new int[FAR], gone = new int[FAR], outs = new int[FAR];
        int played;

        Captain(Rules rules, Odds odds, Best best, Order order, Text told) {
            this.rules = rules;
            this.odds = odds;
            this.best = best;
            this.order = order;
            this.told = told;
        }

        /** Whom a RULE PUTS ON in a STATE that is not ENDED. */
        int putOn(int rule, int o, int w, int attack) {
            switch (rules.kindOf(rule)) {
                case 1: return turn(rule, o, attack);
                case 2: return best.whomAt(best.nodeOf(attack, o), w);
                case 3: case 5: case 6: return greatest(rule, o, w, attack);
                case 4: return turn(rule, o, withoutKept(rule, o, attack));
                default: return Attack.first(attack);
            }
        }

        private int turn(int rule, int o, int attack) {
            int who = rules.turnOf(rule, o);
            return Attack.mayBowl(attack, who) ? who : Attack.first(attack);
        }

        private int withoutKept(int rule, int o, int attack) {
            int kept = rules.turnOf(rule, 0);
            if (kept < 0 || o >= rules.numberOf(rule)) return attack;
            int others = Attack.withLeft(attack, kept, 0);
            return Attack.first(others) < 0 ? attack : others;
        }

        private int greatest(int rule, int o, int w, int attack) {
            int who = -1, most = 0;
            for (int b = 0; b < BOWLERS; b++) {
                if (!Attack.mayBowl(attack, b)) continue;
                int v = rating(rule, o, w, attack, b);
                if (who < 0 || v > most) {
                    who = b;
                    most = v;
                }
            }
            return who;
        }

        /** NOW wants the least of its number, so it is turned round. */
        private int rating(int rule, int o, int w, int attack, int b) {
            int sort = order.sortAt(w), steps = Attack.steps(attack, b), left = Attack.left(attack, b);
            int out = odds.outOf(b, sort, steps, left, o, w);
            switch (rules.kindOf(rule)) {
                case 3: return out - THOUSAND * odds.runsOf(b, sort, steps);
                case 5: return out;
                default:
                    told.say(o, w, sort, b, steps, left);
                    told.sayChance(out, rules.numberOf(rule));
                    return told.worked();
            }
        }

        private int outBy(int who, int o, int w, int attack) {
            return odds.outOf(who, order.sortAt(w), Attack.steps(attack, who), Attack.left(attack, who), o, w);
        }

        private int runsBy(int who, int w, int attack) {
            return odds.runsOf(who, order.sortAt(w), Attack.steps(attack, who));
        }

        /** Depth: o grows by one, and no more than FAR overs are asked for. */
        int meanFrom(int rule, int o, int w, int attack) {
            if (o >= FAR || order.ended(o, w, attack)) return 0;
            int who = putOn(rule, o, w, attack), next = Attack.after(attack, who);
            int ifOut = meanFrom(rule, o + 1, w + 1, next), ifNot = meanFrom(rule, o + 1, w, next);
            return order.meanOf(runsBy(who, w, attack), outBy(who, o, w, attack), ifOut, ifNot);
        }

        int likelyFrom(int rule, int o, int w, int attack, int left) {
            if (o >= FAR || order.ended(o, w, attack)) return left > 0 ? MILLION : 0;
            int who = putOn(rule, o, w, attack), next = Attack.after(attack, who);
            int out = outBy(who, o, w, attack), then = left - runsBy(who, w, attack);
            int ifOut = likelyFrom(rule, o + 1, w + 1, next, then);
            int ifNot = likelyFrom(rule, o + 1, w, next, then);
            int behind = (out * ifOut + (THOUSAND - out) * ifNot) / THOUSAND;
            int rained = then > 0 ? MILLION : 0;
            return (order.rain * rained + (THOUSAND - order.rain) * behind) / THOUSAND;
        }

        /** A GAME from the beginning: RUNS in all. */
        int play(int rule, int seed, int fresh) {
            int z = seed, w = 0, attack = fresh, sum = 0;
            played = 0;
            for (int o = 0; o < FAR && !order.ended(o, w, attack); o++) {
                int who = putOn(rule, o, w, attack), runs = runsBy(who, w, attack);
                z = drawn(z);
                boolean out = lot(z) < outBy(who, o, w, attack);
                leaders[o] = who;
                gone[o] = runs;
                outs[o] = out ? 1 : 0;
                played = o + 1;
                sum += runs;
                if (out) w++;
                attack = Attack.after(attack, who);
                z = drawn(z);
                if (lot(z) < order.rain) break;
            }
            return sum;
        }

        private static int drawn(int z) {
            return z * 1103515245 + 12345;
        }

        private static int lot(int z) {
            return (z >>> 8) % THOUSAND;
        }

        int ledAt(int i, int what) {
            if (i < 0 || i >= FAR) return BAD;
            if (what == 0) return leaders[i];
            return what == 1 ? gone[i] : outs[i];
        }
    }

    /** THE BOOK; STATES in it are told from it anew, as OVERS may have changed behind it. */
    private static final class Book {
        static final int MOST = 12;

        int size;
        private final int[] who = new int[MOST], out = new int[MOST];

        int write(int bowler, int gotOut) {
            if (size >= MOST) return FULL;
            who[size] = bowler;
            out[size] = gotOut;
            return ++size;
        }

        int bowlerAt(int i) {
            return i < 0 || i >= size ? -1 : who[i];
        }

        /** How many got out ahead of its i-th over. */
        int outs(int i) {
            int n = 0;
            for (int k = 0; k < i && k < size; k++) n += out[k];
            return n;
        }

        /** OVERS left of a BOWLER ahead of its i-th over: below 0, if OVERS were taken away since. */
        int leftAhead(int i, int bowler, Numbers numbers) {
            int left = numbers.oversOf(bowler);
            for (int k = 0; k < i && k < size; k++) {
                if (who[k] == bowler) left--;
            }
            return left;
        }

        int attackAhead(int i, Numbers numbers) {
            int attack = numbers.freshAttack();
            for (int k = 0; k < i && k < size; k++) attack = Attack.after(attack, who[k]);
            return attack;
        }
    }

    /** SHELVES: every ROW has its room from the start, so that a new one costs nothing. */
    private static final class Shelves {
        static final int COUNT = 6, LONGEST = 60;
        static final int BYTES = 0, NO_ROW = -1;
        private static final int NOTHING = -2;

        private final Rules rules;
        private final int[] sorts = new int[COUNT], lengths = new int[COUNT], ruled = new int[COUNT];
        private final long[] elements = new long[COUNT * LONGEST];

        Shelves(Rules rules) {
            this.rules = rules;
            for (int shelf = 0; shelf < COUNT; shelf++) {
                sorts[shelf] = NOTHING;
                ruled[shelf] = -1;
            }
        }

        private static boolean isNone(int shelf) {
            return shelf < 0 || shelf >= COUNT;
        }

        boolean isEmpty(int shelf) {
            return isNone(shelf) || sorts[shelf] == NOTHING;
        }

        /** The sort of a ROW; NO_ROW: something else is there, or nothing. */
        int sortOf(int shelf) {
            return isEmpty(shelf) ? NO_ROW : sorts[shelf];
        }

        int lengthOf(int shelf) {
            return sortOf(shelf) == NO_ROW ? 0 : lengths[shelf];
        }

        int ruleOn(int shelf) {
            return isNone(shelf) ? -1 : ruled[shelf];
        }

        void hold(int shelf, int rule) {
            if (isNone(shelf) || rule >= rules.size) return;
            sorts[shelf] = rule < 0 ? NOTHING : NO_ROW;
            ruled[shelf] = rule < 0 ? -1 : rule;
            lengths[shelf] = 0;
        }

        void lay(int shelf, int sort, int n) {
            if (isNone(shelf) || n < 0 || n > LONGEST) return;
            sorts[shelf] = sort;
            lengths[shelf] = n;
            ruled[shelf] = -1;
            for (int i = 0; i < n; i++) elements[shelf * LONGEST + i] = 0;
        }

        /** Why element i is not to be had; 0: it is. */
        int refusal(int shelf, int i) {
            if (isEmpty(shelf)) return NOTHING_THERE;
            if (sortOf(shelf) == NO_ROW) return OTHER_KIND;
            return i < 0 || i >= lengthOf(shelf) ? NO_PLACE : 0;
        }

        long elementAt(int shelf, int i) {
            return refusal(shelf, i) < 0 ? Long.MIN_VALUE : elements[shelf * LONGEST + i];
        }

        void write(int shelf, int i, long v) {
            if (refusal(shelf, i) < 0) return;
            elements[shelf * LONGEST + i] = cut(sorts[shelf], v);
        }

        private static long cut(int sort, long v) {
            switch (sort) {
                case 0: return (byte) v;
                case 1: return (short) v;
                case 2: return (int) v;
                case 3: return v;
                default: return v != 0 ? 1 : 0;
            }
        }

        /** arraycopy reads all before it writes, also where both are one ROW. */
        void move(int shelf, int i, int other, int j, int n) {
            if (n < 0 || i < 0 || j < 0 || n > lengthOf(shelf) - i || n > lengthOf(other) - j) return;
            System.arraycopy(elements, shelf * LONGEST + i, elements, other * LONGEST + j, n);
        }
    }
}
