import java.lang.reflect.Constructor;
import java.lang.reflect.Field;
import java.lang.reflect.Method;
import java.lang.reflect.Modifier;
import java.util.Arrays;
import java.util.Set;
import java.util.TreeSet;

/** The public face of the document, and nothing beside it. */
public final class Face {
    private static final String ALL = " throws java.lang.IllegalArgumentException, java.lang.IllegalStateException,"
            + " java.lang.ArithmeticException, java.util.NoSuchElementException, java.lang.UnsupportedOperationException";
    private static final String MAKING = " throws java.lang.IllegalArgumentException, java.lang.UnsupportedOperationException";
    private static final String ILLEGAL = " throws java.lang.IllegalArgumentException";

    private static final String[] DUE = {
        "int make(int)" + MAKING,
        "int array(int)" + MAKING,
        "int function(int,int,int)" + MAKING,
        "int proxy(int,int)" + MAKING,
        "boolean revoke(int)" + ILLEGAL,
        "int get(int,int,int,boolean)" + ALL,
        "boolean set(int,int,int,int,boolean)" + ALL,
        "boolean has(int,int,boolean)" + ALL,
        "boolean remove(int,int)" + ALL,
        "boolean define(int,int,int,int,int)" + ALL,
        "int about(int,int,int)" + ALL,
        "int keys(int,boolean)" + ALL,
        "int key(int) throws java.lang.IndexOutOfBoundsException",
        "int parent(int)" + ALL,
        "boolean setParent(int,int)" + ALL,
        "boolean open(int)" + ALL,
        "boolean shut(int)" + ALL,
        "boolean level(int,boolean,boolean)" + ALL,
        "int assign(int,int)" + ALL,
        "int call(int)",
        "int count(int)" + ILLEGAL,
    };

    public static void main(String[] args) {
        Check t = new Check();
        Class<?> c = ObjectRules.class;
        t.is(Modifier.PUBLIC | Modifier.FINAL, c.getModifiers(), "the class is public and final");
        Set<String> due = new TreeSet<>(Arrays.asList(DUE));
        Set<String> names = new TreeSet<>();
        for (Method m : c.getDeclaredMethods()) {
            if (Modifier.isPublic(m.getModifiers())) {
                names.add(m.getName());
                t.yes(due.remove(shown(m)), "in the document: " + shown(m));
            }
        }
        t.is(0, due.size(), "missing: " + due);
        checkPrivate(t, c, names);
        Constructor<?>[] constructors = c.getDeclaredConstructors();
        t.is(1, constructors.length, "constructors");
        t.yes(Modifier.isPublic(constructors[0].getModifiers()) && constructors[0].getParameterCount() == 0, "the constructor");
        t.end();
    }

    private static void checkPrivate(Check t, Class<?> c, Set<String> names) {
        for (Method m : c.getDeclaredMethods()) {
            if (!Modifier.isPublic(m.getModifiers())) {
                t.yes(Modifier.isPrivate(m.getModifiers()), "private: " + m.getName());
                t.no(names.contains(m.getName()), "no name of the face: " + m.getName());
                t.yes(m.getParameterCount() <= 7, "at most seven parameters: " + m.getName());
            }
        }
        for (Field f : c.getDeclaredFields()) {
            t.yes(Modifier.isPrivate(f.getModifiers()), "private: " + f.getName());
            t.yes(!Modifier.isStatic(f.getModifiers()) || Modifier.isFinal(f.getModifiers()), "no static state: " + f.getName());
        }
        for (Class<?> inner : c.getDeclaredClasses()) {
            t.no(Modifier.isPublic(inner.getModifiers()), "not public: " + inner.getName());
            for (Method m : inner.getDeclaredMethods()) {
                t.no(names.contains(m.getName()), "no name of the face: " + inner.getSimpleName() + "." + m.getName());
            }
            for (Field f : inner.getDeclaredFields()) {
                boolean constant = Modifier.isFinal(f.getModifiers()) && !f.getType().isArray();
                t.yes(!Modifier.isStatic(f.getModifiers()) || constant, "no static state: " + f.getName());
            }
        }
    }

    private static String shown(Method m) {
        return m.toGenericString().replace("public ", "").replace("ObjectRules.", "").replace(",java", ", java");
    }
}
