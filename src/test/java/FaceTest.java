import java.lang.reflect.Constructor;
import java.lang.reflect.Field;
import java.lang.reflect.Member;
import java.lang.reflect.Method;
import java.lang.reflect.Modifier;
import java.util.Set;
import java.util.TreeSet;

/** The public face: what the document tells and nothing more that can be seen from outside. */
public final class FaceTest {
    private static final Checks c = new Checks();

    private static final Set<String> METHODS = Set.of(
        "int pass(int)", "int tell(int,int)", "int series(int,int)", "int find(int)",
        "long growth(int,int,int)", "int seen(int,int)", "int values(int,int,int)",
        "int unlike(int,int,int)", "int kept(int,int)", "int worst(int,int)",
        "int drop(int,boolean)", "int fold(int,int,int)", "int dropped(int,int)",
        "int chief(int,int,int)", "int shortAt(int,int)", "int ask(int,int,int)",
        "long answer(int,int,int,int)", "int keys(int,int,int)", "int key(int,int,int,int)",
        "int works(int,int,int)", "int lacks(int,int,int)", "int weigh(boolean,int,int)",
        "int loss(int)", "int plan(int,int,int)", "int bill(int,int,int,int)", "int count(int)");

    public static void main(String[] args) {
        constants();
        members();
        noNameTwice();
        c.end();
    }

    private static void constants() {
        c.due("UNKNOWN", SeriesMarks.UNKNOWN, -1);
        c.due("OUTSIDE", SeriesMarks.OUTSIDE, -2);
        c.due("STATE", SeriesMarks.STATE, -3);
        c.due("FULL", SeriesMarks.FULL, -4);
        c.due("NONE", SeriesMarks.NONE, -9);
    }

    private static boolean isHidden(Member m) {
        return Modifier.isPrivate(m.getModifiers()) || m.isSynthetic();
    }

    private static void members() {
        int modifiers = SeriesMarks.class.getModifiers();
        c.holds("public and final", Modifier.isPublic(modifiers) && Modifier.isFinal(modifiers));
        Set<String> fields = new TreeSet<>();
        for (Field f : SeriesMarks.class.getDeclaredFields()) {
            if (!isHidden(f)) {
                fields.add(f.getName());
                int m = f.getModifiers();
                c.holds(f + " is a public constant",
                    Modifier.isPublic(m) && Modifier.isStatic(m) && Modifier.isFinal(m) && f.getType() == int.class);
            }
        }
        c.holds("constants " + fields, fields.equals(Set.of("UNKNOWN", "OUTSIDE", "STATE", "FULL", "NONE")));
        Set<String> methods = new TreeSet<>();
        for (Method m : SeriesMarks.class.getDeclaredMethods()) {
            if (!isHidden(m)) {
                methods.add(told(m));
                c.holds(m + " is public and of the object",
                    Modifier.isPublic(m.getModifiers()) && !Modifier.isStatic(m.getModifiers()));
            }
        }
        c.holds("methods " + methods, methods.equals(METHODS));
        for (Constructor<?> made : SeriesMarks.class.getDeclaredConstructors()) {
            c.holds(made + " is public, without arguments",
                Modifier.isPublic(made.getModifiers()) && made.getParameterCount() == 0);
        }
    }

    private static String told(Method m) {
        StringBuilder s = new StringBuilder();
        s.append(m.getReturnType()).append(' ').append(m.getName()).append('(');
        String between = "";
        for (Class<?> p : m.getParameterTypes()) {
            s.append(between).append(p);
            between = ",";
        }
        return s.append(')').toString();
    }

    private static void noNameTwice() {
        Set<String> faceNames = new TreeSet<>();
        for (Method m : SeriesMarks.class.getDeclaredMethods()) {
            if (!isHidden(m)) {
                faceNames.add(m.getName());
            }
        }
        for (Method m : SeriesMarks.class.getDeclaredMethods()) {
            c.holds(m + " has a name of its own", !isHidden(m) || !faceNames.contains(m.getName()));
        }
        for (Class<?> inside : SeriesMarks.class.getDeclaredClasses()) {
            c.holds(inside + " is static", Modifier.isStatic(inside.getModifiers()));
            for (Method m : inside.getDeclaredMethods()) {
                c.holds(m + " has a name of its own", !faceNames.contains(m.getName()));
            }
        }
    }
}
