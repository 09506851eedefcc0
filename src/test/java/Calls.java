import java.lang.reflect.InvocationTargetException;
import java.lang.reflect.Method;
import java.lang.reflect.Modifier;
import java.util.ArrayList;
import java.util.List;

/** Makes a call by its name, on a program or on a Model; a flag is told as 1, or another number. */
final class Calls {
    static final int NO_SHELF = -1001;
    static final int NO_ELEMENT = -1002;

    private Calls() {
    }

    static long answerOf(Object object, String name, int... arguments) throws Exception {
        Method method = methodOf(object.getClass(), name, arguments.length);
        Class<?>[] types = method.getParameterTypes();
        List<Object> given = new ArrayList<>();
        for (int i = 0; i < types.length; i++) {
            Object flag = arguments[i] == 1;
            Object number = arguments[i];
            given.add(types[i] == boolean.class ? flag : number);
        }
        try {
            return ((Number) method.invoke(object, given.toArray())).longValue();
        } catch (InvocationTargetException thrown) {
            if (thrown.getCause() instanceof IllegalArgumentException) {
                return NO_SHELF;
            }
            if (thrown.getCause() instanceof IllegalStateException) {
                return NO_ELEMENT;
            }
            throw thrown;
        }
    }

    private static Method methodOf(Class<?> type, String name, int many) {
        for (Method method : type.getDeclaredMethods()) {
            boolean isStatic = Modifier.isStatic(method.getModifiers());
            if (method.getName().equals(name) && method.getParameterCount() == many && !isStatic) {
                return method;
            }
        }
        throw new IllegalArgumentException("no method " + name);
    }
}
