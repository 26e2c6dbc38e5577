import java.io.IOException;
import java.lang.reflect.InvocationTargetException;
import java.lang.reflect.Method;
import java.nio.file.Files;
import java.nio.file.Path;
import java.util.ArrayList;
import java.util.Arrays;
import java.util.Comparator;
import java.util.List;
import java.util.Set;
import java.util.TreeSet;
import java.util.regex.Matcher;
import java.util.regex.Pattern;

/**
 * Runs the methods that bear @Says and holds them against the document: the words that they quote
 * must stand there, no heading may go without a test, and no refusal without one that sees it.
 */
final class Boundaries {
    private static final int MOST_CALLS = 512;
    private static final int MOST_ARCS = 50;

    private final Due due = new Due();
    private final Set<String> refusalsSeen = new TreeSet<>();
    private final List<Says> said = new ArrayList<>();
    private String test = "";

    /** What is due for the last call; the others before it are held against PlainCuts. */
    void answers(Given given, String call, int want) {
        CutTrees x = new CutTrees();
        PlainCuts plain = new PlainCuts();
        for (String before : given.calls()) {
            is(given, before, Calls.answer(x, before), Calls.answer(plain, before));
        }
        is(given, call, Calls.answer(x, call), want);
        is(given, "PlainCuts: " + call, Calls.answer(plain, call), want);
        holdsCalls(given.calls().size() + 1);
    }

    /** The call answers so, once and once more, and nothing that can be seen has changed by it. */
    void refused(Given given, String call, int want) {
        refusalsSeen.add(Calls.nameOf(call) + " " + want);
        answers(given, call, want);
        answers(given.then(call), call, want);
        same(given.then(call), given);
        // Answers that are kept inside the object must outlive a refusal too.
        Given asked = given.then(questions(given).toArray(new String[0]));
        same(asked.then(call), asked);
    }

    /** All that can be seen of two objects is the same. */
    void same(Given one, Given other) {
        CutTrees x = made(one);
        CutTrees y = made(other);
        List<String> look = questions(other);
        look.addAll(changes());
        for (String call : look) {
            is(one, call, Calls.answer(x, call), Calls.answer(y, call));
        }
        holdsCalls(Math.max(one.calls().size(), other.calls().size()) + look.size());
    }

    void holds(String what, boolean held) {
        due.holds(test + ": " + what, held);
    }

    static CutTrees made(Given given) {
        CutTrees x = new CutTrees();
        for (String call : given.calls()) {
            Calls.answer(x, call);
        }
        return x;
    }

    private void is(Given given, String call, int got, int want) {
        due.is(got == want ? call : test + ": " + given.calls() + " then " + call, got, want);
    }

    private void holdsCalls(int calls) {
        due.holds(test + ": a run of " + calls + " calls, more than the document lets be", calls <= MOST_CALLS);
    }

    /** The CUTS of one NODE and of two tell the weight between each two; the rest is built on it. */
    private static List<String> questions(Given given) {
        PlainCuts plain = new PlainCuts();
        given.calls().stream().filter(call -> call.matches("(node|clear|arc|drop)\\(.*")).forEach(call -> Calls.answer(plain, call));
        int n = plain.nodes();
        List<String> calls = new ArrayList<>(List.of("least()", "counted()", "every(0)", "drawn(7)", "parts(1)",
            "parts(2)", "parts(3)", "parts(4)", "sparsest()", "share(0)", "share(1)", "without(0)"));
        for (int v = 0; v < n; v++) {
            for (int u = 0; u <= v; u++) {
                calls.add("cut(" + (1 << u | 1 << v) + ")");
            }
            int next = (v + 1) % n;
            calls.addAll(List.of("parent(" + v + ")", "branch(" + v + ")", "partOf(2, " + v + ")",
                "pair(" + v + ", " + next + ")", "side(" + v + ", " + next + ")", "way(" + v + ", " + next + ")",
                "barSet(" + v + ", " + next + ")"));
        }
        return calls;
    }

    /** These tell which ARCS there are and which numbers come next. */
    private static List<String> changes() {
        List<String> calls = new ArrayList<>(List.of("node()", "node()", "arc(0, 1, 1)"));
        for (int arc = 0; arc < MOST_ARCS; arc++) {
            calls.add("drop(" + arc + ")");
        }
        calls.addAll(List.of("cut(1)", "clear()"));
        return calls;
    }

    /** Runs the marked methods of a class in the order of their names, which does not matter. */
    void runAll(Class<?> tests) {
        Method[] methods = tests.getDeclaredMethods();
        Arrays.sort(methods, Comparator.comparing(Method::getName));
        for (Method method : methods) {
            Says says = method.getAnnotation(Says.class);
            if (says != null) {
                said.add(says);
                test = tests.getName() + "." + method.getName();
                run(method);
            }
        }
    }

    private void run(Method method) {
        try {
            method.setAccessible(true);
            method.invoke(null);
        } catch (IllegalAccessException | InvocationTargetException e) {
            e.printStackTrace(System.out);
            holds("ends without an exception", false);
        }
    }

    /** Every word that was quoted stands under its heading of the document. */
    void checkQuotes() throws IOException {
        test = "quotes";
        for (Says says : said) {
            holds("'" + says.words() + "' stands under " + says.under(), textUnder(says.under()).contains(says.words()));
        }
    }

    /** Every paragraph of Terms but what is said of the interface has a test. */
    void checkTerms() throws IOException {
        test = "Terms";
        for (String paragraph : textUnder("Terms").split("\n\n")) {
            boolean isQuoted = said.stream().anyMatch(says -> paragraph.contains(says.words()));
            holds("a test for: " + paragraph, paragraph.isBlank() || paragraph.startsWith("Ahead of") || isQuoted);
        }
    }

    /** Every promise has a test, and every refusal that it names was seen. */
    void checkPromises(int promises) throws IOException {
        for (int i = 1; i <= promises; i++) {
            test = "Promise " + i;
            holds("has a test", said.stream().anyMatch(says -> says.under().equals(test)));
            String text = textUnder(test);
            String call = text.substring(0, text.indexOf('\n')).replaceFirst(".*: ", "");
            Matcher refusal = Pattern.compile("-[1-4]").matcher(text);
            while (refusal.find()) {
                String due = call + " " + refusal.group();
                holds(due + " was seen", refusalsSeen.contains(due));
            }
        }
    }

    /** What stands from a heading, the rest of its line included, to the next one. */
    private static String textUnder(String heading) throws IOException {
        String document = Files.readString(Path.of("../shared/DOC.md"));
        Matcher found = Pattern.compile("(?ms)^## " + heading + "\\b(.*?)(?=^## |\\z)").matcher(document);
        return found.find() ? found.group(1) : "";
    }

    void finish(String name) {
        due.finish(name);
    }
}
