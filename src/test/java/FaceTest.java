import java.lang.reflect.Constructor;
import java.lang.reflect.Field;
import java.lang.reflect.Method;
import java.lang.reflect.Modifier;
import java.util.Arrays;
import java.util.TreeSet;

/** The public face of the document, and that nothing else is seen (rule 1 of LANGUAGE.md). */
public final class FaceTest {

    private static final String[] FACE = {
        "int begin(int) throws IllegalArgumentException",
        "int clear()",
        "int put(int, int) throws IndexOutOfBoundsException, IllegalArgumentException, IllegalStateException",
        "int side(int) throws IllegalArgumentException",
        "int move(int, int, int) throws IndexOutOfBoundsException, IllegalArgumentException, IllegalStateException",
        "int back() throws IllegalStateException",
        "int again() throws IllegalStateException",
        "int resign()",
        "int at(int) throws IndexOutOfBoundsException",
        "String row(int) throws IndexOutOfBoundsException",
        "long reach(int) throws IndexOutOfBoundsException",
        "long takes(int, int) throws IndexOutOfBoundsException, IllegalArgumentException",
        "int of(int) throws IllegalArgumentException",
        "long key()",
        "double time(int) throws IllegalArgumentException",
        "double lead()",
        "String last()",
        "double worth()",
        "int ways(int) throws IllegalArgumentException",
        "int best(int) throws IllegalArgumentException",
        "long threatened()",
        "long digest()",
    };

    public static void main(String[] args) {
        theFace();
        nothingElseIsSeen();
        namesArePrivatelyOthers();
        Checks.finish();
    }

    private static String names(Class<?>[] types) {
        String[] names = Arrays.stream(types).map(Class::getSimpleName).toArray(String[]::new);
        return String.join(", ", names);
    }

    private static void theFace() {
        TreeSet<String> got = new TreeSet<>();
        for (Method method : TaflHall.class.getDeclaredMethods()) {
            if (Modifier.isPublic(method.getModifiers())) {
                String thrown = names(method.getExceptionTypes());
                got.add(method.getReturnType().getSimpleName() + " " + method.getName() + "("
                        + names(method.getParameterTypes()) + ")" + (thrown.isEmpty() ? "" : " throws " + thrown));
            }
        }
        Checks.same("the public methods", got, new TreeSet<>(Arrays.asList(FACE)));
        Constructor<?>[] constructors = TaflHall.class.getDeclaredConstructors();
        Checks.same("the constructors", constructors.length, 1);
        Checks.same("it is public", Modifier.isPublic(constructors[0].getModifiers()), true);
        Checks.same("without parameters", constructors[0].getParameterCount(), 0);
        Checks.same("a public final class", TaflHall.class.getModifiers(), Modifier.PUBLIC | Modifier.FINAL);
        Checks.same("no package", TaflHall.class.getPackageName(), "");
        Checks.same("no class above it", TaflHall.class.getSuperclass().getSimpleName(), "Object");
        Checks.same("no interfaces", TaflHall.class.getInterfaces().length, 0);
    }

    private static void nothingElseIsSeen() {
        for (Field field : TaflHall.class.getDeclaredFields()) {
            Checks.same("private " + field.getName(), Modifier.isPrivate(field.getModifiers()), true);
        }
        for (Method method : TaflHall.class.getDeclaredMethods()) {
            int modifiers = method.getModifiers();
            Checks.same("public or private " + method.getName(),
                    Modifier.isPublic(modifiers) || Modifier.isPrivate(modifiers), true);
        }
        for (Class<?> inside : TaflHall.class.getDeclaredClasses()) {
            int modifiers = inside.getModifiers();
            Checks.same("a class of its own " + inside.getName(), Modifier.isStatic(modifiers)
                    && !Modifier.isPublic(modifiers) && !Modifier.isProtected(modifiers), true);
        }
    }

    private static void namesArePrivatelyOthers() {
        TreeSet<String> face = new TreeSet<>();
        for (Method method : TaflHall.class.getMethods()) {
            face.add(method.getName());
        }
        for (Method method : TaflHall.class.getDeclaredMethods()) {
            if (Modifier.isPrivate(method.getModifiers())) {
                Checks.same("private and public " + method.getName(), face.contains(method.getName()), false);
            }
        }
        for (Class<?> inside : TaflHall.class.getDeclaredClasses()) {
            for (Method method : inside.getDeclaredMethods()) {
                Checks.same("inside and public " + method.getName(), face.contains(method.getName()), false);
            }
        }
    }
}
