import java.lang.reflect.Constructor;
import java.lang.reflect.Field;
import java.lang.reflect.Method;
import java.lang.reflect.Modifier;
import java.util.Arrays;
import java.util.Set;
import java.util.TreeSet;

/** The public face is the document's, and nothing else can be seen from outside. */
public final class FaceTest {
    private static final Set<String> METHODS = new TreeSet<>(Arrays.asList(
            "void lay(int)", "void step(int,int,int,int,int)", "void begin(int)", "boolean put(long,int)",
            "void clear()", "int match(int,boolean,int,int)", "int saved(int)", "int ends(int,boolean,int)",
            "void keep(int)", "boolean isOneWay()", "int over()"));
    private static final Set<String> THROWN = new TreeSet<>(Arrays.asList(
            "lay [class java.lang.IllegalArgumentException]",
            "step [class java.lang.IndexOutOfBoundsException, class java.lang.IllegalArgumentException]",
            "begin [class java.lang.IndexOutOfBoundsException]", "put []", "clear []",
            "match [class java.lang.IllegalArgumentException]", "saved []",
            "ends [class java.lang.IllegalArgumentException]", "keep [class java.lang.IllegalArgumentException]",
            "isOneWay []", "over []"));

    public static void main(String[] args) {
        Checks checks = new Checks();
        Class<?> face = StepMachines.class;
        checks.same("the class is public and final", face.getModifiers(), Modifier.PUBLIC | Modifier.FINAL);
        Set<String> seen = new TreeSet<>();
        Set<String> names = new TreeSet<>();
        Set<String> thrown = new TreeSet<>();
        for (Method method : face.getDeclaredMethods()) {
            if (Modifier.isPrivate(method.getModifiers())) {
                continue;
            }
            checks.same(method + " is public and no more", method.getModifiers(), Modifier.PUBLIC);
            seen.add(method.getReturnType().getName() + " " + method.getName() + "("
                    + String.join(",", Arrays.stream(method.getParameterTypes()).map(Class::getName)
                            .toArray(String[]::new)) + ")");
            names.add(method.getName());
            thrown.add(method.getName() + " " + Arrays.toString(method.getExceptionTypes()));
        }
        checks.same("the methods " + seen, seen.equals(METHODS), true);
        checks.same("what they throw " + thrown, thrown.equals(THROWN), true);
        privateNames(checks, face, names);
        for (Class<?> inside : face.getDeclaredClasses()) {
            checks.same(inside + " is static", Modifier.isStatic(inside.getModifiers()), true);
            privateNames(checks, inside, names);
        }
        constructorAndFields(checks, face);
        checks.done("FaceTest");
    }

    private static void privateNames(Checks checks, Class<?> in, Set<String> names) {
        for (Method method : in.getDeclaredMethods()) {
            if (!Modifier.isPublic(method.getModifiers())) {
                checks.same(method + " has a public one's name", names.contains(method.getName()), false);
            }
        }
    }

    private static void constructorAndFields(Checks checks, Class<?> face) {
        Constructor<?>[] constructors = face.getDeclaredConstructors();
        checks.same("constructors", constructors.length, 1);
        checks.same("the constructor is public", constructors[0].getModifiers(), Modifier.PUBLIC);
        checks.same("the constructor's arguments", constructors[0].getParameterCount(), 0);
        for (Field field : face.getDeclaredFields()) {
            boolean none = field.getName().equals("NONE");
            checks.same(field + " is private", Modifier.isPrivate(field.getModifiers()), !none);
            if (none) {
                checks.same("NONE is public, static, final", field.getModifiers(),
                        Modifier.PUBLIC | Modifier.STATIC | Modifier.FINAL);
                checks.same("NONE is an int", field.getType() == int.class, true);
            }
        }
        checks.same("NONE", StepMachines.NONE, -1);
    }
}
