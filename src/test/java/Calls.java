import java.lang.reflect.InvocationTargetException;
import java.lang.reflect.Method;
import java.util.Arrays;

/** Calls that are told as texts or as names with numbers, made on a KnotCaller or on the Model. */
final class Calls {
    private Calls() {
    }

    /** What "name 1 2 3" answers, or throws.Name of what it throws. */
    static String answer(Object object, String call) {
        String[] words = call.split(" ");
        Object[] args = new Object[words.length - 1];
        for (int i = 0; i < args.length; i++) {
            args[i] = Integer.valueOf(words[i + 1]);
        }
        return answer(object, words[0], args);
    }

    static String answer(Object object, String name, Object[] args) {
        Class<?>[] types = new Class<?>[args.length];
        Arrays.fill(types, int.class);
        try {
            Method method = object.getClass().getMethod(name, types);
            return method.invoke(object, args).toString();
        } catch (InvocationTargetException e) {
            return "throws." + e.getCause().getClass().getSimpleName();
        } catch (ReflectiveOperationException e) {
            throw new AssertionError(name, e);
        }
    }
}
