import java.lang.reflect.InvocationTargetException;
import java.lang.reflect.Method;

/** A call by its name, so that a table of calls can be told in rows. */
final class Ask {
    private Ask() {
    }

    static long ask(HandLock lock, String name, int... numbers) {
        Class<?>[] types = new Class<?>[numbers.length];
        Object[] arguments = new Object[numbers.length];
        for (int i = 0; i < numbers.length; i++) {
            types[i] = int.class;
            arguments[i] = numbers[i];
        }
        try {
            Method method = HandLock.class.getMethod(name, types);
            return ((Number) method.invoke(lock, arguments)).longValue();
        } catch (InvocationTargetException e) {
            throw new IllegalStateException(label(name, numbers) + " threw " + e.getCause(), e);
        } catch (ReflectiveOperationException e) {
            throw new IllegalStateException("there is no " + label(name, numbers), e);
        }
    }

    static String label(String name, int... numbers) {
        StringBuilder label = new StringBuilder(name).append('(');
        for (int i = 0; i < numbers.length; i++) {
            label.append(i == 0 ? "" : ", ").append(numbers[i]);
        }
        return label.append(')').toString();
    }
}
