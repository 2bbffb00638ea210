import java.lang.reflect.Constructor;
import java.lang.reflect.Field;
import java.lang.reflect.Method;
import java.lang.reflect.Modifier;
import java.util.Arrays;
import java.util.Set;
import java.util.TreeSet;

/** The public face, and the first rule of LANGUAGE.md. */
public final class FaceTest {
    private static final Due due = new Due();
    private static final String[] FACE = {
        "int map int int int int", "int ofArea int int", "int width int int", "int plot int int", "int turn int int",
        "int whole int", "int squeeze int", "int day int int int int int", "int least int",
        "int wishes int int int int", "int reading int int", "int back int", "int kinds int", "int widths int",
        "long odds int int", "int sheet int int int", "int lose int", "int put int int int", "long cell int int int",
        "int copy int int int int int", "int tell int", "int survey int", "int as int int", "int trace", "int fault",
        "int many int"};

    public static void main(String[] args) throws IllegalAccessException {
        due.holds("public and final", AreaOrders.class.getModifiers() == (Modifier.PUBLIC | Modifier.FINAL));
        constants();
        fields();
        methods();
        classesInside();
        Constructor<?>[] made = AreaOrders.class.getDeclaredConstructors();
        due.holds("one public constructor", made.length == 1 && Modifier.isPublic(made[0].getModifiers())
            && made[0].getParameterCount() == 0);
        due.end();
    }

    private static void constants() {
        due.is("UNKNOWN", AreaOrders.UNKNOWN, -1);
        due.is("OUTSIDE", AreaOrders.OUTSIDE, -2);
        due.is("STATE", AreaOrders.STATE, -3);
        due.is("FULL", AreaOrders.FULL, -4);
        due.is("NONE", AreaOrders.NONE, -9);
        due.is("LOST", AreaOrders.LOST, Long.MIN_VALUE);
    }

    private static void fields() {
        Set<String> shown = new TreeSet<>();
        int own = 0;
        for (Field field : AreaOrders.class.getDeclaredFields()) {
            int how = field.getModifiers();
            if (!Modifier.isPrivate(how)) {
                shown.add(Modifier.toString(how) + " " + field.getType() + " " + field.getName());
            }
            due.holds("static fields are final: " + field, !Modifier.isStatic(how) || Modifier.isFinal(how));
            own += Modifier.isStatic(how) ? 0 : 1;
        }
        Set<String> want = new TreeSet<>();
        for (String name : new String[] {"UNKNOWN", "OUTSIDE", "STATE", "FULL", "NONE"}) {
            want.add("public static final int " + name);
        }
        want.add("public static final long LOST");
        due.holds("no other fields are seen: " + shown, shown.equals(want));
        due.holds("at most twenty fields", own <= 20);
    }

    private static void methods() {
        Set<String> shown = new TreeSet<>();
        Set<String> names = new TreeSet<>();
        for (Method method : AreaOrders.class.getDeclaredMethods()) {
            if (!Modifier.isPrivate(method.getModifiers())) {
                StringBuilder line = new StringBuilder(method.getReturnType() + " " + method.getName());
                for (Class<?> taken : method.getParameterTypes()) {
                    line.append(' ').append(taken);
                }
                shown.add(line.toString());
                names.add(method.getName());
                due.is("modifiers of " + line, method.getModifiers(), Modifier.PUBLIC);
            }
        }
        due.holds("the face: " + shown, shown.equals(new TreeSet<>(Arrays.asList(FACE))));
        for (Method method : AreaOrders.class.getDeclaredMethods()) {
            boolean hidden = Modifier.isPrivate(method.getModifiers());
            due.holds("a private " + method.getName(), !hidden || !names.contains(method.getName()));
            due.holds("at most seven parameters", method.getParameterCount() <= 7);
        }
        for (Class<?> inside : AreaOrders.class.getDeclaredClasses()) {
            for (Method method : inside.getDeclaredMethods()) {
                due.holds("inside: " + method.getName(), !names.contains(method.getName()));
                due.holds("at most seven parameters", method.getParameterCount() <= 7);
            }
        }
    }

    private static void classesInside() {
        Class<?>[] inside = AreaOrders.class.getDeclaredClasses();
        due.holds("at most twelve classes", inside.length <= 11);
        for (Class<?> one : inside) {
            int how = one.getModifiers();
            due.holds("static: " + one, Modifier.isStatic(how));
            due.holds("not public: " + one, !Modifier.isPublic(how) && !Modifier.isProtected(how));
            due.holds("at most twenty fields: " + one, one.getDeclaredFields().length <= 20);
        }
    }
}
