import java.lang.reflect.Constructor;
import java.lang.reflect.Field;
import java.lang.reflect.Member;
import java.lang.reflect.Method;
import java.lang.reflect.Modifier;
import java.util.ArrayList;
import java.util.Collections;
import java.util.List;

/** "The public face": the class with its constructor, its methods and the exceptions that they throw, and no more. */
public final class FaceTest {
    private static final String[] FACE = {
        "int coefficient(int,int) throws IllegalArgumentException,NoSuchElementException",
        "int compare(int,int) throws IllegalArgumentException,NoSuchElementException",
        "int degree(int) throws IllegalArgumentException",
        "boolean drop(int) throws IllegalArgumentException",
        "int feed(int,long) throws IllegalArgumentException,IllegalStateException",
        "int floor(int,int) throws IllegalArgumentException,NoSuchElementException",
        "int index(int) throws IllegalArgumentException,NoSuchElementException",
        "int line()",
        "int look(int) throws IllegalArgumentException",
        "long out(int) throws NoSuchElementException",
        "int roots(int) throws IllegalArgumentException,NoSuchElementException",
        "int write(int) throws IllegalArgumentException,NoSuchElementException",
    };

    public static void main(String[] args) {
        theClass();
        methods();
        noOtherMember();
        classesInside();
        fields();
        Check.end();
    }

    private static void theClass() {
        Class<?> face = RootAlgebra.class;
        Check.same("modifiers", Modifier.toString(face.getModifiers()), "public final");
        Check.same("package", face.getPackageName(), "");
        Check.same("superclass", face.getSuperclass(), Object.class);
        Check.same("interfaces", face.getInterfaces().length, 0);
        Constructor<?>[] made = face.getDeclaredConstructors();
        Check.same("constructors", made.length, 1);
        Check.same("the constructor", Modifier.isPublic(made[0].getModifiers()), true);
        Check.same("its parameters", made[0].getParameterCount(), 0);
        Check.same("its exceptions", made[0].getExceptionTypes().length, 0);
    }

    private static void methods() {
        List<String> due = new ArrayList<>(List.of(FACE));
        List<String> found = new ArrayList<>();
        List<String> names = new ArrayList<>();
        for (Method m : RootAlgebra.class.getDeclaredMethods()) {
            if (Modifier.isPublic(m.getModifiers())) {
                Check.same("modifiers of " + m.getName(), Modifier.toString(m.getModifiers()), "public");
                found.add(told(m));
                names.add(m.getName());
            }
        }
        Collections.sort(due);
        Collections.sort(found);
        Check.same("public methods", found, due);
        for (Method m : RootAlgebra.class.getDeclaredMethods()) {
            boolean hidden = Modifier.isPrivate(m.getModifiers()) && names.contains(m.getName());
            Check.same("private method with a public name: " + m.getName(), hidden, false);
        }
    }

    private static String told(Method m) {
        String thrown = names(m.getExceptionTypes());
        return m.getReturnType() + " " + m.getName() + "(" + names(m.getParameterTypes()) + ")"
            + (thrown.isEmpty() ? "" : " throws " + thrown);
    }

    private static String names(Class<?>[] types) {
        List<String> names = new ArrayList<>();
        for (Class<?> type : types) {
            names.add(type.getSimpleName());
        }
        return String.join(",", names);
    }

    private static void noOtherMember() {
        for (Field f : RootAlgebra.class.getDeclaredFields()) {
            Check.same("field " + f.getName(), Modifier.isPrivate(f.getModifiers()), true);
        }
        for (Method m : RootAlgebra.class.getDeclaredMethods()) {
            int is = m.getModifiers();
            Check.same("method " + m.getName(), Modifier.isPublic(is) || Modifier.isPrivate(is), true);
        }
    }

    private static void classesInside() {
        Class<?>[] inside = RootAlgebra.class.getDeclaredClasses();
        Check.same("few classes: " + inside.length, inside.length + 1 <= 12, true);
        for (Class<?> c : inside) {
            int is = c.getModifiers();
            Check.same("static: " + c, Modifier.isStatic(is), true);
            Check.same("public or protected: " + c, Modifier.isPublic(is) || Modifier.isProtected(is), false);
            Check.same("classes inside " + c, c.getDeclaredClasses().length, 0);
        }
    }

    /** No state is shared by objects, and no class has too many fields or a method too many parameters. */
    private static void fields() {
        List<Class<?>> all = new ArrayList<>(List.of(RootAlgebra.class.getDeclaredClasses()));
        all.add(RootAlgebra.class);
        for (Class<?> c : all) {
            int own = 0;
            for (Field f : c.getDeclaredFields()) {
                own += isStatic(f) ? 0 : 1;
                boolean shared = isStatic(f) && !(Modifier.isFinal(f.getModifiers()) && isPlain(f.getType()));
                Check.same("shared state: " + f, shared, false);
            }
            Check.same("few fields in " + c + ": " + own, own <= 20, true);
            for (Method m : c.getDeclaredMethods()) {
                Check.same("parameters of " + m, m.getParameterCount() <= 7, true);
            }
        }
    }

    private static boolean isStatic(Member m) {
        return Modifier.isStatic(m.getModifiers());
    }

    private static boolean isPlain(Class<?> type) {
        return type.isPrimitive() || type == String.class;
    }
}
