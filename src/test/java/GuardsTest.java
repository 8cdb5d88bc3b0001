import java.lang.reflect.Constructor;
import java.lang.reflect.InvocationTargetException;
import java.lang.reflect.Method;
import java.lang.reflect.Modifier;
import java.util.ArrayList;
import java.util.Arrays;
import java.util.List;

/**
 * Rule 7 of LANGUAGE.md, "an index is looked at before it is used": each class inside stands any numbers by itself,
 * even those that the face would never hand on to it. What the face lets through is looked at by the other tests.
 */
public final class GuardsTest {
    private static final String RULE = "Rule 7, \"No call may ever throw by itself\": ";
    private static final int[] WILD = {Integer.MIN_VALUE, -65536, -1, 0, 1, 64, 199, 200, 256, 65535,
        Integer.MAX_VALUE};

    /** A machine goes from a place to the subject's end: from the lowest of all numbers it would only take long. */
    private static final int[] WILD_PLACES = {-1, 0, 1, 2, 20, 200, 201, 256, Integer.MAX_VALUE};

    /** So often a method that adds something is called with each wild number: more than there is room for. */
    private static final int ENOUGH_TO_FILL = 50;

    private static final Checks checks = new Checks();

    private final List<Object> made = new ArrayList<>();

    /** Where a machine puts its match; it looks for one only as long as there is none. */
    private final int[] best = new int[20];

    public static void main(String[] args) throws ReflectiveOperationException {
        for (Class<?> inside : StepMachines.class.getDeclaredClasses()) {
            GuardsTest test = new GuardsTest();
            Object object = test.madeOf(inside);
            int rounds = isMachine(inside) ? 199 : 3;
            for (int round = 0; round < rounds; round++) {
                test.layWildly(round);
                test.callAll(inside, object);
            }
        }
        checks.same("calls were made", checks.made() > 1000, true);
        checks.done("GuardsTest");
    }

    private Object madeOf(Class<?> type) throws ReflectiveOperationException {
        for (Object object : made) {
            if (type.isInstance(object)) {
                return object;
            }
        }
        Constructor<?> constructor = type.getDeclaredConstructors()[0];
        constructor.setAccessible(true);
        Class<?>[] types = constructor.getParameterTypes();
        Object[] arguments = new Object[types.length];
        for (int i = 0; i < types.length; i++) {
            arguments[i] = types[i] == int.class ? 402 : types[i] == int[].class ? best : madeOf(types[i]);
        }
        Object object = constructor.newInstance(arguments);
        made.add(object);
        return object;
    }

    /** Steps whose kinds, values and next steps are none, so that a machine has wild numbers to go on with. */
    private void layWildly(int round) throws ReflectiveOperationException {
        Object program = madeOf(inside("Program"));
        Object subject = madeOf(inside("Subject"));
        call(program, method(program, "layOut"), 200);
        for (int k = 1; k < 200; k++) {
            int wild = WILD[(k + round) % WILD.length];
            int next = k % 3 == 0 ? wild : k + 1;
            call(program, method(program, "change"), k, (k + round) % 6, k % 2 == 0 ? wild : 255, next, wild);
            call(subject, method(subject, "append"), wild + k);
        }
        call(program, method(program, "beginWith"), 1 + round);
    }

    private static boolean isMachine(Class<?> inside) {
        return Arrays.stream(inside.getDeclaredMethods()).anyMatch(method -> method.getName().equals("run"));
    }

    private static Class<?> inside(String name) {
        for (Class<?> inside : StepMachines.class.getDeclaredClasses()) {
            if (inside.getSimpleName().equals(name)) {
                return inside;
            }
        }
        throw new IllegalStateException("there is no class " + name);
    }

    private static Method method(Object object, String name) {
        for (Method method : object.getClass().getDeclaredMethods()) {
            if (method.getName().equals(name)) {
                method.setAccessible(true);
                return method;
            }
        }
        throw new IllegalStateException("there is no method " + name);
    }

    private void callAll(Class<?> inside, Object object) throws ReflectiveOperationException {
        for (Method method : inside.getDeclaredMethods()) {
            if (!Modifier.isPrivate(method.getModifiers())) {
                method.setAccessible(true);
                boolean runs = method.getName().equals("run");
                int times = method.getParameterCount() == 1 ? ENOUGH_TO_FILL : 1;
                for (int i = 0; i < times; i++) {
                    callWith(object, method, new Object[method.getParameterCount()], 0, runs ? WILD_PLACES : WILD);
                }
            }
        }
    }

    /** Every choice of arguments with every other one. */
    private void callWith(Object object, Method method, Object[] arguments, int i, int[] wild)
            throws ReflectiveOperationException {
        if (i == arguments.length) {
            Arrays.fill(best, StepMachines.NONE);
            call(object, method, arguments);
            return;
        }
        for (Object choice : choices(method.getParameterTypes()[i], wild)) {
            arguments[i] = choice;
            callWith(object, method, arguments, i + 1, wild);
        }
    }

    private List<Object> choices(Class<?> type, int[] wild) throws ReflectiveOperationException {
        if (type == boolean.class) {
            return List.of(true, false);
        }
        if (type == int[].class) {
            return List.of(new int[20], new int[0]);
        }
        if (type != int.class) {
            return List.of(madeOf(type));
        }
        List<Object> numbers = new ArrayList<>();
        for (int number : wild) {
            numbers.add(number);
        }
        return numbers;
    }

    private static void call(Object object, Method method, Object... arguments) throws IllegalAccessException {
        String thrown = "";
        String what = "";
        try {
            method.invoke(object, arguments);
        } catch (InvocationTargetException e) {
            thrown = e.getCause().toString();
            what = method.getDeclaringClass().getSimpleName() + "." + method.getName() + List.of(arguments);
        }
        checks.same(RULE + what, thrown, "");
    }
}
