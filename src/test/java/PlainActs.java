import java.util.ArrayList;
import java.util.List;

/** ACTS as the host itself finds bodies: real classes, real interfaces, real super. */
final class PlainActs {
    private PlainActs() {
    }

    interface Puts {
        int number();
        List<Integer> trace();

        default int puts(int x) {
            trace().add(1);
            return x + number();
        }
    }

    interface Tells {
        int holds(int x);
        int gives(int x);
        List<Integer> trace();

        default int tells(int x) {
            trace().add(2);
            return holds(x) - gives(1);
        }
    }

    static class Rule implements Puts, Tells {
        final List<Integer> trace = new ArrayList<>();
        int n;

        public int number() {
            return n;
        }

        public List<Integer> trace() {
            return trace;
        }

        public int holds(int x) {
            trace.add(10);
            return puts(x) * 2;
        }

        public int gives(int x) {
            trace.add(11);
            return x ^ n;
        }
    }

    static class Turn extends Rule {
        public int puts(int x) {
            trace.add(20);
            return super.puts(x) + 3;
        }
    }

    static class Best extends Rule {
        public int gives(int x) {
            trace.add(30);
            return super.gives(x) * 3;
        }
    }

    static class Now extends Best {
        public int holds(int x) {
            trace.add(40);
            return -super.holds(x);
        }
    }

    static final class Keep extends Turn {
        public int puts(int x) {
            trace.add(50);
            return super.puts(x + 1);
        }

        public int tells(int x) {
            trace.add(51);
            return super.tells(x) ^ 5;
        }
    }

    static final class Match extends Now {
        public int gives(int x) {
            trace.add(60);
            return super.gives(x) - puts(2);
        }
    }

    static final class Told extends Rule {
        public int holds(int x) {
            trace.add(70);
            return super.holds(x) + gives(1);
        }
    }

    static final Class<?>[] KINDS = {Rule.class, Turn.class, Best.class, Now.class, Keep.class, Match.class, Told.class};

    static Rule make(int kind, int number) {
        Rule[] all = {new Rule(), new Turn(), new Best(), new Now(), new Keep(), new Match(), new Told()};
        all[kind].n = number;
        return all[kind];
    }

    static int run(Rule r, int act, int x) {
        r.trace.clear();
        switch (act) {
            case 0: return r.puts(x);
            case 1: return r.holds(x);
            case 2: return r.gives(x);
            default: return r.tells(x);
        }
    }
}
