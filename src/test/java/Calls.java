import java.lang.reflect.InvocationTargetException;
import java.util.Arrays;

/** Calls that are told as texts, such as "arc(0, 1, 5)". */
final class Calls {
    private Calls() { }

    static String nameOf(String call) {
        return call.substring(0, call.indexOf('('));
    }

    /** Makes the call on a CutTrees or a PlainCuts. */
    static int answer(Object to, String call) {
        String inside = call.substring(call.indexOf('(') + 1, call.length() - 1);
        Object[] numbers = inside.isEmpty() ? new Object[0]
            : Arrays.stream(inside.split(", ")).map(Integer::valueOf).toArray();
        Class<?>[] types = new Class<?>[numbers.length];
        Arrays.fill(types, int.class);
        try {
            return (int) to.getClass().getDeclaredMethod(nameOf(call), types).invoke(to, numbers);
        } catch (NoSuchMethodException | IllegalAccessException | InvocationTargetException e) {
            throw new IllegalStateException(call, e);
        }
    }
}
