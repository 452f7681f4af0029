import java.lang.reflect.Constructor;
import java.lang.reflect.Field;
import java.lang.reflect.Member;
import java.lang.reflect.Method;
import java.lang.reflect.Modifier;
import java.util.ArrayList;
import java.util.List;
import java.util.Set;
import java.util.TreeSet;

/** The face as the document has it, and what the compiled classes show of LANGUAGE.md; TreesTest looks at the source. */
public final class LanguageTest {
    private static final String[] FACE = {
        "bowler(int,int,int)int", "edge(int,int,int)int", "field(int,int,int)int", "set(int)int", "feed(int,int)int",
        "order()int", "text(int)int", "of(int)int", "over(int,int,int)int", "rule(int,int,int)int", "puts(int)int",
        "mean(int)int", "likely(int,int)int", "best(int)int", "worth(int,int)int", "fielded(int,int)int", "kept(int)int",
        "theirs(int)int", "learn(int,int)int", "book(int,int)int", "books(int,int)int", "close()int", "cost(int)int",
        "lost(int)int", "game(int,int)int", "led(int,int)int", "undo()int", "redo()int", "act(int,int,int)int",
        "trace(int)int", "keep(int,int)int", "row(int,int,int)int", "put(int,int,long)int", "element(int,int)long",
        "shift(int,int,int,int,int)int", "taken(int,int)int", "count(int)int"
    };
    private static final String[] CONSTANTS = {"BAD", "NOT", "FULL", "BIG", "STATE", "VOID"};
    private static final Checks CHECKS = new Checks();

    public static void main(String[] args) {
        CHECKS.about("the face");
        face();
        nested();
        CHECKS.end();
    }

    private static String signature(Method m) {
        StringBuilder b = new StringBuilder(m.getName()).append('(');
        for (Class<?> c : m.getParameterTypes()) {
            if (b.charAt(b.length() - 1) != '(') b.append(',');
            b.append(c.getName());
        }
        return b.append(')').append(m.getReturnType().getName()).toString();
    }

    private static void face() {
        Class<?> c = ChangeBowler.class;
        CHECKS.holds("public and final", Modifier.isPublic(c.getModifiers()) && Modifier.isFinal(c.getModifiers()));
        Set<String> due = new TreeSet<>(List.of(FACE)), got = new TreeSet<>(), names = new TreeSet<>();
        for (Method m : c.getDeclaredMethods()) {
            if (!Modifier.isPrivate(m.getModifiers())) {
                got.add(signature(m));
                CHECKS.holds(m + " is public", Modifier.isPublic(m.getModifiers()) && !Modifier.isStatic(m.getModifiers()));
                names.add(m.getName());
            }
        }
        CHECKS.holds("methods " + got, got.equals(due));
        for (Class<?> k : all()) {
            for (Method m : k.getDeclaredMethods()) {
                if (k != c || Modifier.isPrivate(m.getModifiers())) CHECKS.holds(m + " has a name of its own", !names.contains(m.getName()));
            }
        }
        Set<String> shown = new TreeSet<>();
        for (Field f : c.getDeclaredFields()) {
            if (!Modifier.isPrivate(f.getModifiers())) shown.add(f.getName());
        }
        CHECKS.holds("constants " + shown, shown.equals(new TreeSet<>(List.of(CONSTANTS))));
        Constructor<?>[] made = c.getDeclaredConstructors();
        CHECKS.holds("one constructor", made.length == 1 && Modifier.isPublic(made[0].getModifiers()) && made[0].getParameterCount() == 0);
    }

    private static List<Class<?>> all() {
        List<Class<?>> list = new ArrayList<>(List.of(ChangeBowler.class.getDeclaredClasses()));
        list.add(0, ChangeBowler.class);
        return list;
    }

    private static void nested() {
        CHECKS.holds("twelve classes at most", all().size() <= 12);
        for (Class<?> k : all()) {
            if (k != ChangeBowler.class) {
                CHECKS.holds(k + " is static", Modifier.isStatic(k.getModifiers()));
                CHECKS.holds(k + " is not public", !Modifier.isPublic(k.getModifiers()) && !Modifier.isProtected(k.getModifiers()));
            }
            int fields = 0;
            for (Field f : k.getDeclaredFields()) {
                if (Modifier.isStatic(f.getModifiers())) CHECKS.holds(f + " is final", Modifier.isFinal(f.getModifiers()));
                else fields++;
            }
            CHECKS.holds(k + " has twenty fields at most", fields <= 20);
            for (Method m : k.getDeclaredMethods()) {
                CHECKS.holds(m + " is written, not made", !((Member) m).isSynthetic());
            }
        }
    }
}
