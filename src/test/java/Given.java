import java.util.ArrayList;
import java.util.List;

/** Calls on a new object, each told as a text such as "arc(0, 1, 5)". */
record Given(List<String> calls) {
    static Given nodes(int count) {
        return new Given(List.of()).times(count, "node()");
    }

    /** Rows of a, b, weight. */
    static Given graph(int count, int... rows) {
        List<String> calls = new ArrayList<>(nodes(count).calls);
        for (int i = 0; i < rows.length; i += 3) {
            calls.add("arc(" + rows[i] + ", " + rows[i + 1] + ", " + rows[i + 2] + ")");
        }
        return new Given(calls);
    }

    static Given complete(int count, int weight) {
        Given made = nodes(count);
        for (int a = 0; a < count; a++) {
            for (int b = a + 1; b < count; b++) {
                made = made.then("arc(" + a + ", " + b + ", " + weight + ")");
            }
        }
        return made;
    }

    Given then(String... more) {
        List<String> longer = new ArrayList<>(calls);
        longer.addAll(List.of(more));
        return new Given(longer);
    }

    Given times(int count, String call) {
        List<String> longer = new ArrayList<>(calls);
        for (int i = 0; i < count; i++) {
            longer.add(call);
        }
        return new Given(longer);
    }
}
