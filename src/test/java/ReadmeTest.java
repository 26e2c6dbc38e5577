import java.io.IOException;
import java.lang.reflect.Method;
import java.lang.reflect.Modifier;
import java.nio.file.Files;
import java.nio.file.Path;
import java.util.List;
import java.util.Set;
import java.util.TreeSet;
import java.util.regex.Matcher;
import java.util.regex.Pattern;

/** The calls that README.md shows answer what stands beside them, and none of the face is left out. */
public final class ReadmeTest {
    private static final int MOST_CALLS = 512;
    private static final String NEW_OBJECT = "CutTrees x = new CutTrees();";
    /** Calls, then as many answers, then perhaps ": " and a remark. */
    private static final Pattern LINE =
        Pattern.compile("((?:x\\.\\w+\\([^)]*\\); *)+)// (-?\\d+(?:, -?\\d+)*)(?:: .*)?");
    private static final Pattern CALL = Pattern.compile("x\\.(\\w+\\([^)]*\\));");

    private static final Due due = new Due();
    private static final Set<String> shown = new TreeSet<>();
    private static CutTrees x = null;
    private static PlainCuts plain = null;
    private static int calls = 0;

    public static void main(String[] args) throws IOException {
        String text = Files.readString(Path.of("README.md"));
        Matcher block = Pattern.compile("(?ms)^```java\n(.*?)^```$").matcher(text);
        while (block.find()) {
            block.group(1).lines().forEach(ReadmeTest::checkLine);
        }
        checkFaceIsShown();
        checkTestsAreNamed(text);
        due.finish("ReadmeTest");
    }

    private static void checkLine(String line) {
        if (line.equals(NEW_OBJECT)) {
            x = new CutTrees();
            plain = new PlainCuts();
            calls = 0;
            return;
        }
        Matcher found = LINE.matcher(line);
        due.holds("calls on an object with their answers: " + line, x != null && found.matches());
        if (x == null || !found.matches()) {
            return;
        }
        List<String> told = CALL.matcher(found.group(1)).results().map(call -> call.group(1)).toList();
        String[] answers = found.group(2).split(", ");
        due.is("how many answers: " + line, answers.length, told.size());
        for (int i = 0; i < told.size() && i < answers.length; i++) {
            check(told.get(i), Integer.parseInt(answers[i]));
        }
    }

    private static void check(String call, int want) {
        shown.add(Calls.nameOf(call));
        calls++;
        due.is("README.md: " + call, Calls.answer(x, call), want);
        due.is("README.md, PlainCuts: " + call, Calls.answer(plain, call), want);
        due.holds("no more calls than an object is for", calls <= MOST_CALLS);
    }

    private static void checkFaceIsShown() {
        for (Method method : CutTrees.class.getDeclaredMethods()) {
            boolean isHidden = !Modifier.isPublic(method.getModifiers());
            due.holds("README.md shows " + method.getName(), isHidden || shown.contains(method.getName()));
        }
    }

    private static void checkTestsAreNamed(String text) throws IOException {
        try (var files = Files.list(Path.of("src/test/java"))) {
            for (Path file : files.filter(path -> path.toString().endsWith("Test.java")).toList()) {
                String name = file.getFileName().toString().replace(".java", "");
                due.holds("README.md names " + name, text.contains("`" + name + "`"));
            }
        }
    }
}
