import java.lang.reflect.Constructor;
import java.lang.reflect.Field;
import java.lang.reflect.Method;
import java.lang.reflect.Modifier;
import java.util.Arrays;
import java.util.Set;
import java.util.TreeSet;

/** The public face is the document's, no more and no less, with its constants. */
public final class FaceTest {
    private static final String[] METHODS = {
        "int write(int)", "int wipe()", "int fault()", "int program()", "int line(int,int)",
        "int tell(int,int,int,int,int,int)", "int relabel(int,int)", "int undo()", "int label(int,int)",
        "int context(int,int)", "int wrong()", "int run(int,int,int,int)", "int ends(int,int,int,int)", "int leak(int)",
        "int worlds(int)", "int alike(int,int,int)", "int judge(int,long)", "int hear(int,int,int,int)", "int unhear()",
        "int secrets(int)", "int share(int,int,boolean)", "int muted(int,boolean)", "long seed(long)", "int drawn(int)",
        "int keep(int)", "int again(int)", "int count(int)"};

    private FaceTest() {
    }

    public static void main(String[] args) {
        Due.due("UNKNOWN", QuietLines.UNKNOWN, -1);
        Due.due("OUTSIDE", QuietLines.OUTSIDE, -2);
        Due.due("STATE", QuietLines.STATE, -3);
        Due.due("FULL", QuietLines.FULL, -4);
        Due.due("NONE", QuietLines.NONE, -9);
        Due.holds("the class is public and final", Modifier.isPublic(QuietLines.class.getModifiers())
                && Modifier.isFinal(QuietLines.class.getModifiers()));
        methods();
        fields();
        Constructor<?>[] constructors = QuietLines.class.getDeclaredConstructors();
        Due.due("constructors", constructors.length, 1);
        Due.holds("the constructor is public", Modifier.isPublic(constructors[0].getModifiers())
                && constructors[0].getParameterCount() == 0);
        for (Class<?> inside : QuietLines.class.getDeclaredClasses()) {
            Due.holds(inside + " is static and not public", Modifier.isStatic(inside.getModifiers())
                    && !Modifier.isPublic(inside.getModifiers()) && !Modifier.isProtected(inside.getModifiers()));
        }
        Due.end();
    }

    private static String told(Method method) {
        StringBuilder types = new StringBuilder();
        for (Class<?> type : method.getParameterTypes()) {
            types.append(types.length() == 0 ? "" : ",").append(type.getName());
        }
        return method.getReturnType().getName() + " " + method.getName() + "(" + types + ")";
    }

    private static void methods() {
        Set<String> visible = new TreeSet<>();
        Set<String> names = new TreeSet<>();
        for (Method method : QuietLines.class.getDeclaredMethods()) {
            if (!Modifier.isPrivate(method.getModifiers())) {
                visible.add(told(method));
                names.add(method.getName());
                Due.holds(method + " is public", Modifier.isPublic(method.getModifiers()));
            }
        }
        Due.holds("the methods are the document's: " + visible, visible.equals(new TreeSet<>(Arrays.asList(METHODS))));
        for (Method method : QuietLines.class.getDeclaredMethods()) {
            if (Modifier.isPrivate(method.getModifiers())) {
                Due.holds(method + " bears a name of its own", !names.contains(method.getName()));
            }
        }
        for (Class<?> inside : QuietLines.class.getDeclaredClasses()) {
            for (Method method : inside.getDeclaredMethods()) {
                Due.holds(method + " bears a name of its own", !names.contains(method.getName()));
            }
        }
    }

    private static void fields() {
        Set<String> visible = new TreeSet<>();
        for (Field field : QuietLines.class.getDeclaredFields()) {
            if (Modifier.isStatic(field.getModifiers())) {
                Due.holds(field + " is final", Modifier.isFinal(field.getModifiers()));
            }
            if (!Modifier.isPrivate(field.getModifiers())) {
                visible.add(field.getName());
            }
        }
        Set<String> constants = new TreeSet<>(Set.of("UNKNOWN", "OUTSIDE", "STATE", "FULL", "NONE"));
        Due.holds("the constants are the document's: " + visible, visible.equals(constants));
    }
}
