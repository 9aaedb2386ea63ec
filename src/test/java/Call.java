import java.lang.reflect.InvocationTargetException;
import java.lang.reflect.Method;
import java.util.Arrays;
import java.util.stream.Collectors;

/** A call told by its name and numbers, so that a table of calls can be made, and named when one is wrong. */
final class Call {
    private final Method method;
    private final Object[] numbers;

    private Call(Method method, Object[] numbers) {
        this.method = method;
        this.numbers = numbers;
    }

    static Call of(String name, int... numbers) {
        Class<?>[] types = new Class<?>[numbers.length];
        Arrays.fill(types, int.class);
        try {
            return new Call(SleepyHelm.class.getMethod(name, types), Arrays.stream(numbers).boxed().toArray());
        } catch (NoSuchMethodException e) {
            throw new AssertionError("the face has no " + name, e);
        }
    }

    /** What a call throws ends the test: no call may ever throw. */
    long on(SleepyHelm x) {
        try {
            return ((Number) method.invoke(x, numbers)).longValue();
        } catch (InvocationTargetException | IllegalAccessException e) {
            throw new AssertionError(this + " threw", e);
        }
    }

    @Override
    public String toString() {
        String told = Arrays.stream(numbers).map(String::valueOf).collect(Collectors.joining(", "));
        return method.getName() + "(" + told + ")";
    }
}
