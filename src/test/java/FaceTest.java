import java.lang.reflect.Constructor;
import java.lang.reflect.Field;
import java.lang.reflect.Method;
import java.lang.reflect.Modifier;
import java.util.Arrays;
import java.util.TreeSet;

/** The public face, as the document has it, and nothing beside it (LANGUAGE.md, rules 1, 2 and 11). */
public final class FaceTest {
    private static final String[] FACE = {
        "int row(int,int,int)", "int set(int,int,long)", "int copy(int,int,int,int,int)", "long element(int,int)",
        "int show(int,int)", "int holds(int)", "int says(int,int)", "int question(int,int)",
        "int group(int,int,int,int,int)", "int questionOf(int,int)", "int groupOf(int,int)", "int bears(int,int,int)",
        "int ask(int,int)", "int town(int)", "int fault()", "int yes(int,int,int)", "int answers(int,int)",
        "int by(int,int,int)", "int hold()", "int order(int,int)", "int blame()", "int nothing(int,int)",
        "int enough(int,int)", "int cost(int)", "int fine(int,int)", "int never()", "int late(int,int)",
        "int fits(int,int)", "int halves(int)", "int twin(int)", "int nearest()", "int move(int,int)",
        "int judge(int,int)", "int round(int,int,int)", "int change(int,int,int)", "int doors(int)", "int seed(int)",
        "int act(int,int,int)", "int trace(int)", "int image()", "int restore()", "int status(int)",
    };

    private static final int MOST_CLASSES = 12;
    private static final int MOST_FIELDS = 20;

    public static void main(String[] args) throws Exception {
        Checks checks = new Checks();
        Class<?> face = AskedTheOtherWayAbout.class;
        checks.due("the class is public and final", face.getModifiers(), Modifier.PUBLIC | Modifier.FINAL);
        TreeSet<String> due = new TreeSet<>(Arrays.asList(FACE));
        TreeSet<String> names = new TreeSet<>();
        TreeSet<String> got = new TreeSet<>();
        for (Method m : face.getDeclaredMethods()) {
            if (Modifier.isPrivate(m.getModifiers())) continue;
            got.add(signature(m));
            names.add(m.getName());
            checks.due(m + " is public alone", m.getModifiers(), Modifier.PUBLIC);
        }
        checks.due("the methods", got.toString(), due.toString());
        for (Method m : face.getDeclaredMethods()) {
            boolean hidden = Modifier.isPrivate(m.getModifiers()) && names.contains(m.getName());
            checks.due(m + " is private and named like a public one", hidden ? 1 : 0, 0);
        }
        for (Field f : face.getDeclaredFields()) {
            if (f.getName().equals("NONE")) continue;
            checks.due(f + " is private", Modifier.isPrivate(f.getModifiers()) ? 1 : 0, 1);
        }
        Field none = face.getDeclaredField("NONE");
        checks.due("NONE's modifiers", none.getModifiers(), Modifier.PUBLIC | Modifier.STATIC | Modifier.FINAL);
        checks.due("NONE", AskedTheOtherWayAbout.NONE, -1);
        Constructor<?>[] made = face.getDeclaredConstructors();
        checks.due("constructors", made.length, 1);
        checks.due("it is public", made[0].getModifiers(), Modifier.PUBLIC);
        checks.due("it takes nothing", made[0].getParameterCount(), 0);
        for (Class<?> inside : face.getDeclaredClasses()) {
            checks.due(inside + " is static", Modifier.isStatic(inside.getModifiers()) ? 1 : 0, 1);
            checks.due(inside + " is not public", Modifier.isPublic(inside.getModifiers()) ? 1 : 0, 0);
            checks.due(inside + " has too many fields", fieldsBesideConstants(inside) > MOST_FIELDS ? 1 : 0, 0);
        }
        checks.due("the class has too many fields", fieldsBesideConstants(face) > MOST_FIELDS ? 1 : 0, 0);
        checks.due("there are too many classes", face.getDeclaredClasses().length >= MOST_CLASSES ? 1 : 0, 0);
        checks.end();
    }

    private static int fieldsBesideConstants(Class<?> owner) {
        int fields = 0;
        for (Field f : owner.getDeclaredFields()) {
            if (!Modifier.isStatic(f.getModifiers())) fields++;
        }
        return fields;
    }

    private static String signature(Method m) {
        StringBuilder text = new StringBuilder(m.getReturnType().getName()).append(' ').append(m.getName()).append('(');
        for (Class<?> type : m.getParameterTypes()) {
            if (text.charAt(text.length() - 1) != '(') text.append(',');
            text.append(type.getName());
        }
        return text.append(')').toString();
    }
}
