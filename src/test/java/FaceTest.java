import java.lang.reflect.Constructor;
import java.lang.reflect.Field;
import java.lang.reflect.Method;
import java.lang.reflect.Modifier;
import java.util.Arrays;
import java.util.TreeSet;

/** The document's public face, and rule 1 of LANGUAGE.md: nothing but it can be seen from outside. */
final class FaceTest {
    private static final String[] FACE = {
        "int add(int,int) IllegalArgumentException,IllegalStateException",
        "int at(int,int) IllegalArgumentException,IndexOutOfBoundsException",
        "int bind(int,int,int) IllegalArgumentException,IllegalStateException",
        "int empty(int,int) IllegalArgumentException,IllegalStateException",
        "int first(int) IllegalArgumentException,NoSuchElementException",
        "int join(int,int) IllegalArgumentException,IllegalStateException",
        "int kind(int) IllegalArgumentException",
        "int parts(int) IllegalArgumentException",
        "int rest(int) IllegalArgumentException,IllegalStateException,NoSuchElementException",
        "int size(int) IllegalArgumentException",
        "int update(int,int,int) IllegalArgumentException,IllegalStateException,"
                + "IndexOutOfBoundsException",
        "int value(int,int) IllegalArgumentException,NoSuchElementException",
        "int versions() ",
    };

    public static void main(String[] args) {
        Due due = new Due();
        due.holds("the class is public and final",
                LastingShapes.class.getModifiers() == (Modifier.PUBLIC | Modifier.FINAL));
        due.same("methods", new TreeSet<>(Arrays.asList(FACE)).toString(), visibleMethods().toString());
        due.same("constructors", "[public LastingShapes()]", visibleConstructors().toString());
        for (Field field : LastingShapes.class.getDeclaredFields()) {
            due.holds(field + " is private", Modifier.isPrivate(field.getModifiers()));
            due.holds(field + " is no state that objects share",
                    !Modifier.isStatic(field.getModifiers()) || Modifier.isFinal(field.getModifiers()));
        }
        for (Method method : LastingShapes.class.getDeclaredMethods()) {
            due.holds(method + " bears no name of the face unless it is of it",
                    !Modifier.isPrivate(method.getModifiers()) || !faceNames().contains(method.getName()));
        }
        for (Class<?> inside : LastingShapes.class.getDeclaredClasses()) {
            int modifiers = inside.getModifiers();
            due.holds(inside + " is static", Modifier.isStatic(modifiers));
            due.holds(inside + " is not to be seen from other packages",
                    !Modifier.isPublic(modifiers) && !Modifier.isProtected(modifiers));
        }
        due.end();
    }

    private static TreeSet<String> faceNames() {
        TreeSet<String> names = new TreeSet<>();
        for (String method : FACE) {
            names.add(method.substring("int ".length(), method.indexOf('(')));
        }
        return names;
    }

    private static TreeSet<String> visibleMethods() {
        TreeSet<String> seen = new TreeSet<>();
        for (Method method : LastingShapes.class.getDeclaredMethods()) {
            if (!Modifier.isPrivate(method.getModifiers())) {
                seen.add((Modifier.isPublic(method.getModifiers()) ? "" : "not public: ")
                        + method.getReturnType().getName() + " " + method.getName()
                        + "(" + names(method.getParameterTypes()) + ") "
                        + names(method.getExceptionTypes()));
            }
        }
        return seen;
    }

    private static TreeSet<String> visibleConstructors() {
        TreeSet<String> seen = new TreeSet<>();
        for (Constructor<?> constructor : LastingShapes.class.getDeclaredConstructors()) {
            seen.add(constructor.toString());
        }
        return seen;
    }

    private static String names(Class<?>[] types) {
        StringBuilder all = new StringBuilder();
        for (Class<?> type : types) {
            all.append(all.length() == 0 ? "" : ",").append(type.getSimpleName());
        }
        return all.toString();
    }
}
