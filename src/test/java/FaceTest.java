import java.lang.reflect.Constructor;
import java.lang.reflect.Field;
import java.lang.reflect.Method;
import java.lang.reflect.Modifier;
import java.util.ArrayList;
import java.util.List;
import java.util.TreeSet;

/** The public face is the document's, with its exceptions, and no other member can be seen from outside. */
public final class FaceTest {
    private static final String[] FACE = {
        "int certificate(int,int) IllegalArgumentException",
        "int contradiction(int) IndexOutOfBoundsException",
        "int count(int) IllegalArgumentException",
        "int drop(int) IllegalArgumentException,IllegalStateException",
        "int export(int,int) ",
        "int find(int,int,int,int,int) IllegalArgumentException,IndexOutOfBoundsException",
        "int listen(int,int) IllegalArgumentException,IllegalStateException",
        "int mark(int,int,int) IllegalArgumentException,IndexOutOfBoundsException,UnsupportedOperationException",
        "int offset(int) IllegalArgumentException",
        "int part(int,int,int) IllegalArgumentException,IllegalStateException",
        "int row(int,int) IllegalArgumentException",
        "int size(int,int) ",
        "int slot(int,int,int,long,int,int) IllegalArgumentException,IndexOutOfBoundsException,UnsupportedOperationException",
        "int sum(int) IllegalArgumentException,IllegalStateException",
        "int time(int) IllegalArgumentException,IllegalStateException",
        "int verify() ",
        "void hold(int,boolean) IllegalArgumentException,IllegalStateException",
        "void poke(int,int,int) IllegalArgumentException,IndexOutOfBoundsException,IllegalStateException",
        "void right(int,int,boolean) IllegalArgumentException",
    };

    public static void main(String[] args) {
        int modifiers = RecordTimes.class.getModifiers();
        Check.due("public final", 1, Modifier.isPublic(modifiers) && Modifier.isFinal(modifiers) ? 1 : 0);
        TreeSet<String> want = new TreeSet<>(List.of(FACE));
        TreeSet<String> got = new TreeSet<>();
        for (Method m : RecordTimes.class.getDeclaredMethods()) {
            if (!Modifier.isPrivate(m.getModifiers())) {
                Check.due(m + " is public, of the object", Modifier.PUBLIC, m.getModifiers());
                got.add(textOf(m));
            }
        }
        if (!got.equals(want)) {
            Check.fail("the face is " + got + ", due is " + want);
        }
        for (Field f : RecordTimes.class.getDeclaredFields()) {
            Check.due(f + " is private", 1, Modifier.isPrivate(f.getModifiers()) ? 1 : 0);
            if (Modifier.isStatic(f.getModifiers())) {
                Check.due(f + " is final", 1, Modifier.isFinal(f.getModifiers()) ? 1 : 0);
            }
        }
        Constructor<?>[] constructors = RecordTimes.class.getDeclaredConstructors();
        Check.due("constructors", 1, constructors.length);
        Check.due("its parameters", 0, constructors[0].getParameterCount());
        Check.due("it is public", 1, Modifier.isPublic(constructors[0].getModifiers()) ? 1 : 0);
        classesInsideAreHidden();
        noHiddenMethodBearsAPublicName();
        Check.finish();
    }

    private static void classesInsideAreHidden() {
        for (Class<?> c : RecordTimes.class.getDeclaredClasses()) {
            int modifiers = c.getModifiers();
            Check.due(c + " is static", 1, Modifier.isStatic(modifiers) ? 1 : 0);
            Check.due(c + " is not seen", 0, Modifier.isPublic(modifiers) || Modifier.isProtected(modifiers) ? 1 : 0);
        }
    }

    private static void noHiddenMethodBearsAPublicName() {
        TreeSet<String> names = new TreeSet<>();
        for (String method : FACE) {
            names.add(method.substring(method.indexOf(' ') + 1, method.indexOf('(')));
        }
        List<Method> methods = new ArrayList<>(List.of(RecordTimes.class.getDeclaredMethods()));
        for (Class<?> c : RecordTimes.class.getDeclaredClasses()) {
            methods.addAll(List.of(c.getDeclaredMethods()));
        }
        for (Method m : methods) {
            boolean ofTheFace = m.getDeclaringClass() == RecordTimes.class && Modifier.isPublic(m.getModifiers());
            Check.due(m + " has a name of its own", 0, !ofTheFace && names.contains(m.getName()) ? 1 : 0);
        }
    }

    private static String textOf(Method m) {
        return m.getReturnType().getSimpleName() + " " + m.getName() + "(" + names(m.getParameterTypes()) + ") "
                + names(m.getExceptionTypes());
    }

    private static String names(Class<?>[] types) {
        List<String> names = new ArrayList<>();
        for (Class<?> c : types) {
            names.add(c.getSimpleName());
        }
        return String.join(",", names);
    }
}
