import java.lang.reflect.Constructor;
import java.lang.reflect.Field;
import java.lang.reflect.Method;
import java.lang.reflect.Modifier;
import java.util.TreeSet;

/** The class's face is the document's, and no other member can be seen from outside. */
public final class FaceTest {
    private static final String[] METHODS = {
        "int write(int)", "int wipe()", "int fault()", "int lay()", "int thing(int,int)", "int life(int,int)",
        "int room()", "int worth(int,int)", "int put(int)", "int out(int)", "int live(int)", "int pass(int)",
        "int undo()", "int best(int,int)", "int cover(int,int)", "int serves()", "int row(int)", "int bargain()",
        "int talk(int)", "int see(int,boolean)", "int forget()", "int meant()", "int moths(int,int,int)",
        "int year(int,int,int)", "int keep()", "int back()", "int count(int)",
    };

    public static void main(String[] args) {
        Check check = new Check("FaceTest");
        Class<?> face = BottomDrawer.class;
        check.same("the class", Modifier.toString(face.getModifiers()), "public final");

        TreeSet<String> due = new TreeSet<>();
        for (String method : METHODS) {
            due.add("public " + method);
        }
        TreeSet<String> found = new TreeSet<>();
        TreeSet<String> names = new TreeSet<>();
        for (Method method : face.getDeclaredMethods()) {
            if (!Modifier.isPrivate(method.getModifiers())) {
                found.add(told(method));
                names.add(method.getName());
            }
        }
        check.same("the methods", found.toString(), due.toString());

        TreeSet<String> alike = new TreeSet<>();
        hidden(face, names, alike);
        for (Class<?> inside : face.getDeclaredClasses()) {
            check.same(inside.getName(), Modifier.toString(inside.getModifiers()), "private static final");
            hidden(inside, names, alike);
        }
        check.same("methods within that bear a name of the face", alike.toString(), "[]");

        TreeSet<String> fields = new TreeSet<>();
        for (Field field : face.getDeclaredFields()) {
            if (!Modifier.isPrivate(field.getModifiers())) {
                fields.add(Modifier.toString(field.getModifiers()) + " " + field.getType() + " " + field.getName());
            }
        }
        check.same("the constants", fields.toString(), "[public static final int BAD, public static final int FULL, "
                + "public static final int NO, public static final int NONE]");

        Constructor<?>[] made = face.getDeclaredConstructors();
        check.due("constructors", made.length, 1);
        check.same("the constructor", made[0].toString(), "public BottomDrawer()");
        check.due("BAD", BottomDrawer.BAD, -1);
        check.due("NO", BottomDrawer.NO, -2);
        check.due("FULL", BottomDrawer.FULL, -3);
        check.due("NONE", BottomDrawer.NONE, -4);
        check.end();
    }

    private static void hidden(Class<?> from, TreeSet<String> names, TreeSet<String> alike) {
        for (Method method : from.getDeclaredMethods()) {
            boolean ofFace = from == BottomDrawer.class && !Modifier.isPrivate(method.getModifiers());
            if (!ofFace && names.contains(method.getName())) {
                alike.add(from.getName() + "." + method.getName());
            }
        }
    }

    private static String told(Method method) {
        StringBuilder told = new StringBuilder();
        told.append(Modifier.toString(method.getModifiers())).append(' ').append(method.getReturnType())
                .append(' ').append(method.getName()).append('(');
        Class<?>[] takes = method.getParameterTypes();
        for (int i = 0; i < takes.length; i++) {
            told.append(i == 0 ? "" : ",").append(takes[i]);
        }
        return told.append(')').toString();
    }
}
