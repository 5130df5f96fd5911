import java.lang.reflect.InvocationTargetException;
import java.lang.reflect.Method;
import java.util.HashMap;
import java.util.Map;

/** A call of the face with its arguments, which can be made on any harbour. */
final class Call {
    private static final Map<String, Method> METHODS = methods();

    private final String name;
    private final int[] arguments;
    private final Method method;
    private final Object[] boxed;

    /** A boolean argument is 1 or 0. */
    Call(String name, int... arguments) {
        this.name = name;
        this.arguments = arguments.clone();
        method = METHODS.get(name);
        boxed = new Object[arguments.length];
        for (int i = 0; i < boxed.length; i++) {
            boolean isTruth = method.getParameterTypes()[i] == boolean.class;
            boxed[i] = isTruth ? (Object) (arguments[i] == 1) : (Object) arguments[i];
        }
    }

    private static Map<String, Method> methods() {
        Map<String, Method> all = new HashMap<>();
        for (Method one : BlobHarbor.class.getDeclaredMethods()) {
            all.put(one.getName(), one);
        }
        return all;
    }

    /** The answer as a number; it throws what the call throws. */
    long on(BlobHarbor x) {
        try {
            Object answer = method.invoke(x, boxed);
            if (answer instanceof Boolean) {
                return (Boolean) answer ? 1 : 0;
            }
            return answer instanceof Character ? (Character) answer : (Integer) answer;
        } catch (InvocationTargetException e) {
            if (e.getCause() instanceof RuntimeException) {
                throw (RuntimeException) e.getCause();
            }
            throw new AssertionError(text(), e.getCause());
        } catch (IllegalAccessException e) {
            throw new AssertionError(text(), e);
        }
    }

    /** The key that the call puts something under, or 0. */
    int key() {
        boolean hasKey = name.equals("put") || name.equals("upload");
        return hasKey && Model.name(arguments[1]) != null ? arguments[1] : 0;
    }

    String text() {
        StringBuilder all = new StringBuilder(name).append('(');
        for (int i = 0; i < arguments.length; i++) {
            all.append(i == 0 ? "" : ", ").append(boxed[i]);
        }
        return all.append(')').toString();
    }
}
