import java.lang.reflect.Constructor;
import java.lang.reflect.Field;
import java.lang.reflect.Method;
import java.lang.reflect.Modifier;
import java.util.TreeSet;

/** The face of the class: what is public is the document's, all else is private (rules 1 and 5 of LANGUAGE.md). */
public final class FaceTest {
    private static final String[] METHODS = {
        "int person(int,int,int)", "int die(int)", "int weight(int,int)", "int say(int)", "int wipe()", "int fault()",
        "int judge(int)", "int done()", "int state(int,int)", "int behind(int,int)", "int acts(int)", "int owes(int,int)",
        "int who(int)", "long best(int,int,int)", "int least(int,int)", "long price(int,int,int)",
        "long last(int,int,int,int)", "int netted(int)", "int hands()", "int match(int,int)", "int wrote(int,int)",
        "int compare(int)", "long blots(int,int,int,int)", "int seen(int,int,int,boolean)", "int forget()", "int signs()",
        "int watch(int)", "int book(int,int,int)", "int image(int)", "int restore(int)", "int told(int)"};
    private static final String[] CONSTANTS = {"NONE", "UNKNOWN", "OUTSIDE", "STATE", "FULL", "NO", "LOST"};

    public static void main(String[] args) {
        Due due = new Due();
        Class<?> c = SignedSheets.class;
        due.is("modifiers of the class", c.getModifiers(), Modifier.PUBLIC | Modifier.FINAL);

        TreeSet<String> want = new TreeSet<>(java.util.List.of(METHODS));
        TreeSet<String> names = new TreeSet<>();
        for (String m : METHODS) {
            names.add(m.substring(m.indexOf(' ') + 1, m.indexOf('(')));
        }
        TreeSet<String> got = new TreeSet<>();
        for (Method m : c.getDeclaredMethods()) {
            boolean isPrivate = Modifier.isPrivate(m.getModifiers());
            due.holds(m + ": private bears no public one's name", !isPrivate || !names.contains(m.getName()));
            if (!isPrivate) {
                due.is(m + ": modifiers", m.getModifiers(), Modifier.PUBLIC);
                got.add(written(m));
            }
        }
        due.holds("methods " + got + " are " + want, got.equals(want));

        TreeSet<String> constants = new TreeSet<>();
        for (Field f : c.getDeclaredFields()) {
            if (!Modifier.isPrivate(f.getModifiers())) {
                due.is(f + ": modifiers", f.getModifiers(), Modifier.PUBLIC | Modifier.STATIC | Modifier.FINAL);
                constants.add(f.getName());
            }
        }
        due.holds("constants " + constants, constants.equals(new TreeSet<>(java.util.List.of(CONSTANTS))));

        Constructor<?>[] constructors = c.getDeclaredConstructors();
        due.is("constructors", constructors.length, 1);
        due.is("the constructor's modifiers", constructors[0].getModifiers(), Modifier.PUBLIC);
        due.is("its parameters", constructors[0].getParameterCount(), 0);
        inside(due, c, names);
        due.end("FaceTest");
    }

    private static void inside(Due due, Class<?> c, TreeSet<String> names) {
        due.holds("twelve classes at most", c.getDeclaredClasses().length < 12);
        for (Class<?> n : c.getDeclaredClasses()) {
            int bits = n.getModifiers();
            due.holds(n + " is static and not open", Modifier.isStatic(bits) && (bits & (Modifier.PUBLIC | Modifier.PROTECTED)) == 0);
            due.holds(n + ": twenty fields at most", n.getDeclaredFields().length <= 20);
            for (Field f : n.getDeclaredFields()) {
                due.holds(f + ": static is final", !Modifier.isStatic(f.getModifiers()) || Modifier.isFinal(f.getModifiers()));
            }
            for (Method m : n.getDeclaredMethods()) {
                due.holds(m + " bears no public one's name", !names.contains(m.getName()));
                due.holds(m + ": seven parameters at most", m.getParameterCount() <= 7);
            }
        }
    }

    private static String written(Method m) {
        StringBuilder text = new StringBuilder(m.getReturnType() + " " + m.getName() + "(");
        for (int i = 0; i < m.getParameterCount(); i++) {
            text.append(i == 0 ? "" : ",").append(m.getParameterTypes()[i]);
        }
        return text.append(")").toString();
    }
}
