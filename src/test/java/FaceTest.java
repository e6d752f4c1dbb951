import java.lang.reflect.Constructor;
import java.lang.reflect.Field;
import java.lang.reflect.Method;
import java.lang.reflect.Modifier;
import java.util.Arrays;
import java.util.Set;
import java.util.TreeSet;

/** The public face, and LANGUAGE.md's rule 1. */
public final class FaceTest {
    private static final Set<String> FACE = new TreeSet<>(Arrays.asList(
        "void set(int, int, int)", "void start(int)", "void stop(int, boolean)",
        "void open(int, int, int, int, int)", "void change(int, int, int, int)", "void ask(int)",
        "int tick(int)", "boolean type(long, int)", "boolean arrive(int, int, int, int, int)",
        "int router(int, int)", "int session(int, int, int)", "int port(int)", "int flying()", "int frame(int, int)"));

    public static void main(String[] args) {
        Due due = new Due("FaceTest");
        due.is("NONE", StandInLan.NONE, -1);
        due.yes("the class is public and final", Modifier.isPublic(StandInLan.class.getModifiers())
            && Modifier.isFinal(StandInLan.class.getModifiers()));
        Set<String> open = new TreeSet<>();
        Set<String> names = new TreeSet<>();
        for (Method m : StandInLan.class.getDeclaredMethods()) {
            if (!Modifier.isPrivate(m.getModifiers())) {
                open.add(signature(m));
                names.add(m.getName());
                due.yes(m.getName() + " is public and of the object",
                    Modifier.isPublic(m.getModifiers()) && !Modifier.isStatic(m.getModifiers()));
            }
        }
        due.yes("the methods that can be seen are the document's: " + open, open.equals(FACE));
        for (Field f : StandInLan.class.getDeclaredFields()) {
            due.yes("field " + f.getName() + " is private, or NONE",
                Modifier.isPrivate(f.getModifiers()) || f.getName().equals("NONE"));
            due.yes("static field " + f.getName() + " is final",
                !Modifier.isStatic(f.getModifiers()) || Modifier.isFinal(f.getModifiers()));
        }
        Constructor<?>[] makers = StandInLan.class.getDeclaredConstructors();
        due.is("constructors", makers.length, 1);
        due.is("the constructor's parameters", makers[0].getParameterCount(), 0);
        due.yes("the constructor is public", Modifier.isPublic(makers[0].getModifiers()));
        noPrivateMethodIsNamedSo(due, names, StandInLan.class);
        for (Class<?> inside : StandInLan.class.getDeclaredClasses()) {
            due.yes(inside.getName() + " is static", Modifier.isStatic(inside.getModifiers()));
            noPrivateMethodIsNamedSo(due, names, inside);
        }
        due.end();
    }

    private static void noPrivateMethodIsNamedSo(Due due, Set<String> names, Class<?> c) {
        for (Method m : c.getDeclaredMethods()) {
            boolean isOfTheFace = c == StandInLan.class && Modifier.isPublic(m.getModifiers());
            due.no(c.getName() + "." + m.getName() + " bears a public method's name",
                !isOfTheFace && names.contains(m.getName()));
        }
    }

    private static String signature(Method m) {
        StringBuilder text = new StringBuilder(m.getReturnType().getName()).append(' ').append(m.getName()).append('(');
        for (int i = 0; i < m.getParameterCount(); i++) {
            text.append(i == 0 ? "" : ", ").append(m.getParameterTypes()[i].getName());
        }
        return text.append(')').toString();
    }
}
