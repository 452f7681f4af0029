import java.lang.reflect.Method;
import java.nio.file.Files;
import java.nio.file.Path;
import java.util.Arrays;
import java.util.Comparator;

/** What the tests sentence by sentence share. */
abstract class Edges {
    static final int BAD = -1, NOT = -2, FULL = -3, BIG = -4, STATE = -5, VOID = -2000000000;
    static final int LEAST = Integer.MIN_VALUE, MOST = Integer.MAX_VALUE;
    static final long NONE = Long.MIN_VALUE;
    /** A TEXT of the least int, and of the greatest. */
    static final String LEAST_INT = "8192*8192*32", MOST_INT = "8192*8192*32-1";

    private static final Checks C = new Checks();
    private static final Path DOCUMENT = Path.of("../shared/DOC.md");

    /** Runs each method that says words of the document; words that stand there no more are told, but do not fail. */
    static void runAll(Class<?> tests) throws Exception {
        String document = Files.isReadable(DOCUMENT) ? plain(Files.readString(DOCUMENT)) : "";
        Method[] all = tests.getDeclaredMethods();
        Arrays.sort(all, Comparator.comparing(Method::getName));
        int ran = 0;
        for (Method m : all) {
            Says says = m.getAnnotation(Says.class);
            if (says == null) continue;
            for (String words : says.value()) {
                if (!document.contains(plain(words))) System.out.println(m.getName() + ": not in the document: " + words);
            }
            C.about(m.getName() + " (" + says.value()[0] + ")");
            m.setAccessible(true);
            m.invoke(null);
            ran++;
        }
        System.out.println(ran + " sentences");
        C.end();
    }

    private static String plain(String s) {
        return s.replaceAll("\\s+", " ");
    }

    static void due(String what, long got, long want) {
        C.same(what, got, want);
    }

    static int order(ChangeBowler x, String s) {
        return Hand.order(x, s);
    }

    static int text(ChangeBowler x, int use, String s) {
        return Hand.text(x, use, s);
    }

    /** What a TEXT of use 1 is answered with on a new object. */
    static int read(String s) {
        return text(new ChangeBowler(), 1, s);
    }

    /** Two BOWLERS of 2 OVERS, 3 and 5 runs an over, EDGE 100; one of SORT 0 is in for three overs. */
    static ChangeBowler two() {
        ChangeBowler x = new ChangeBowler();
        x.bowler(2, 10, 3);
        x.bowler(2, 20, 5);
        order(x, "0:3");
        return x;
    }

    /** OVERS booked one after the other, as digits: 10 times out and the BOWLER would be two, so those out are a, b, c, d. */
    static int booked(ChangeBowler x, String overs) {
        int n = x.count(3);
        for (char c : overs.toCharArray()) n = c >= 'a' ? x.book(c - 'a', 1) : x.book(c - '0', 0);
        return n;
    }
}
