import java.lang.reflect.InvocationTargetException;
import java.lang.reflect.Method;
import java.util.HashMap;
import java.util.Map;

/** Calls MinimaRoom and Model by the names of their methods. */
final class Answers {
    private static final Map<String, Method> METHODS = methods();

    private Answers() {
    }

    /** What the room or the model of it answers, or the name of what it throws. */
    static String of(Object called, String name, int... numbers) {
        try {
            return String.valueOf(METHODS.get(called.getClass().getName() + "." + name).invoke(called, boxed(numbers)));
        } catch (InvocationTargetException e) {
            return "throws " + e.getCause().getClass().getName();
        } catch (IllegalAccessException e) {
            throw new AssertionError(e);
        }
    }

    private static Object[] boxed(int[] numbers) {
        Object[] boxed = new Object[numbers.length];
        for (int i = 0; i < boxed.length; i++) {
            boxed[i] = numbers[i];
        }
        return boxed;
    }

    private static Map<String, Method> methods() {
        Map<String, Method> methods = new HashMap<>();
        for (Class<?> c : new Class<?>[] {MinimaRoom.class, Model.class}) {
            for (Method m : c.getDeclaredMethods()) {
                methods.put(c.getName() + "." + m.getName(), m);
            }
        }
        return methods;
    }
}
