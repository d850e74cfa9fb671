import java.lang.reflect.InvocationTargetException;
import java.lang.reflect.Method;
import java.util.Arrays;
import java.util.stream.Collectors;

/** One call of the face by its name, so that two codes can be asked the same. */
record Call(String name, int... arguments) {

    /** The answer as a text; an exception is an answer too. */
    String answerOf(Object code) {
        Class<?>[] types = new Class<?>[arguments.length];
        Arrays.fill(types, int.class);
        try {
            Method method = code.getClass().getDeclaredMethod(name, types);
            return String.valueOf(method.invoke(code, Arrays.stream(arguments).boxed().toArray()));
        } catch (InvocationTargetException e) {
            return "throws " + e.getCause().getClass().getSimpleName();
        } catch (ReflectiveOperationException e) {
            throw new IllegalArgumentException("no such call: " + this, e);
        }
    }

    @Override
    public String toString() {
        return name + Arrays.stream(arguments).mapToObj(String::valueOf).collect(Collectors.joining(", ", "(", ")"));
    }
}
