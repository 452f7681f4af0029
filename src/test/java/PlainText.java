import java.util.ArrayList;
import java.util.List;
import java.util.regex.Matcher;
import java.util.regex.Pattern;

/** The two grammars by other means than the class's: prefixes against a pattern, and a machine that goes sign by sign. */
final class PlainText {
    private static final Pattern ORDER = Pattern.compile("([0-3]{1,8})(?::(0?[1-9]|1[0-2]))?(?:r([0-9]{1,3}))?");
    private static final Pattern WRONG_OVERS = Pattern.compile("[0-3]{1,8}:([0-9]{1,2})");
    private static final String NAMES = "owsbtlpk";

    private PlainText() {
    }

    static Matcher order(String tape) {
        Matcher m = ORDER.matcher(tape);
        return m.matches() ? m : null;
    }

    static int orderFault(String tape) {
        Matcher overs = WRONG_OVERS.matcher(tape);
        if (overs.lookingAt()) {
            int t = Integer.parseInt(overs.group(1));
            if (t < 1 || t > 12) return overs.start(1);
        }
        for (int i = 1; i <= tape.length(); i++) {
            Matcher m = ORDER.matcher(tape.substring(0, i));
            if (!m.matches() && !m.hitEnd()) return i - 1;
        }
        return tape.length();
    }

    /** The FAULT of a TEXT, or -1. */
    static int textFault(String tape) {
        List<Character> open = new ArrayList<>();
        List<Boolean> compared = new ArrayList<>(List.of(false));
        boolean wanted = true, asked = false;
        int digits = 0;
        for (int i = 0; i < tape.length(); i++) {
            char c = tape.charAt(i);
            int deep = compared.size() - 1;
            if (c >= '0' && c <= '9') {
                if (!wanted && digits == 0 || digits == 4) return i;
                digits++;
                if (digits == 1) closeSigns(open);
                wanted = false;
                continue;
            }
            digits = 0;
            if (wanted) {
                if (NAMES.indexOf(c) >= 0) {
                    wanted = false;
                    closeSigns(open);
                } else if ("(!-".indexOf(c) >= 0 && open.size() < 6) {
                    open.add(c);
                    if (c == '(') compared.add(false);
                } else {
                    return i;
                }
                continue;
            }
            if ("+-*/%".indexOf(c) >= 0) {
                wanted = true;
            } else if (c == '|' || c == '&') {
                compared.set(deep, false);
                wanted = true;
            } else if ("<=>".indexOf(c) >= 0 && !compared.get(deep)) {
                compared.set(deep, true);
                wanted = true;
            } else if (c == ')' && deep > 0) {
                compared.remove(deep);
                open.remove(open.size() - 1);
                closeSigns(open);
            } else if (c == '?' && deep == 0 && !asked || c == ';' && deep == 0) {
                asked = c == '?';
                compared.set(0, false);
                wanted = true;
            } else {
                return i;
            }
        }
        return wanted || compared.size() > 1 ? tape.length() : -1;
    }

    private static void closeSigns(List<Character> open) {
        while (!open.isEmpty() && open.get(open.size() - 1) != '(') open.remove(open.size() - 1);
    }

    /** What a TEXT without FAULT gives; null gives 0. */
    static int value(String text, int[] names) {
        if (text == null) return 0;
        for (String line : text.split(";")) {
            String[] both = line.split("\\?");
            int first = whole(both[0], names);
            if (both.length == 1) return first;
            if (first != 0) return whole(both[1], names);
        }
        return 0;
    }

    /** Splits at the last sign outside of brackets that binds least and joins two. */
    private static int whole(String e, int[] names) {
        for (String signs : new String[] {"|", "&", "<=>", "+-", "*/%"}) {
            int deep = 0;
            for (int i = e.length() - 1; i > 0; i--) {
                char c = e.charAt(i);
                if (c == ')') deep++;
                if (c == '(') deep--;
                if (deep == 0 && signs.indexOf(c) >= 0 && joinsBehind(e.charAt(i - 1))) {
                    return joined(c, whole(e.substring(0, i), names), whole(e.substring(i + 1), names));
                }
            }
        }
        char c = e.charAt(0);
        if (c == '(') return whole(e.substring(1, e.length() - 1), names);
        if (c == '!') return whole(e.substring(1), names) == 0 ? 1 : 0;
        if (c == '-') return -whole(e.substring(1), names);
        int name = NAMES.indexOf(c);
        return name >= 0 ? names[name] : Integer.parseInt(e);
    }

    private static boolean joinsBehind(char ahead) {
        return ahead == ')' || Character.isLetterOrDigit(ahead);
    }

    private static int joined(char c, int x, int y) {
        switch (c) {
            case '|': return x != 0 | y != 0 ? 1 : 0;
            case '&': return x != 0 & y != 0 ? 1 : 0;
            case '<': return x < y ? 1 : 0;
            case '=': return x == y ? 1 : 0;
            case '>': return x > y ? 1 : 0;
            case '+': return x + y;
            case '-': return x - y;
            case '*': return x * y;
            case '/': return y == 0 ? 0 : (int) ((long) x / y);
            default: return y == 0 ? 0 : (int) ((long) x % y);
        }
    }
}
