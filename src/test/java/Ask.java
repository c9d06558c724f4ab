import java.lang.reflect.InvocationTargetException;
import java.lang.reflect.Method;
import java.util.Arrays;
import java.util.HashMap;
import java.util.Map;

/** A call of the face with its arguments, that can be made on the class and on the model alike. */
record Ask(String name, int... arguments) {
    private static final Map<String, Method> METHODS = new HashMap<>();

    /** The answer, or the name of the exception's class. */
    Object of(Object x) {
        try {
            return method(x.getClass()).invoke(x, Arrays.stream(arguments).boxed().toArray());
        } catch (InvocationTargetException e) {
            return e.getCause().getClass().getName();
        } catch (ReflectiveOperationException e) {
            throw new AssertionError(e);
        }
    }

    private Method method(Class<?> type) throws NoSuchMethodException {
        String key = type.getName() + "." + name;
        Method known = METHODS.get(key);
        if (known == null) {
            Class<?>[] types = new Class<?>[arguments.length];
            Arrays.fill(types, int.class);
            known = type.getDeclaredMethod(name, types);
            METHODS.put(key, known);
        }
        return known;
    }

    @Override
    public String toString() {
        String list = Arrays.toString(arguments);
        return name + "(" + list.substring(1, list.length() - 1) + ")";
    }
}
