import java.io.IOException;
import java.lang.reflect.Constructor;
import java.lang.reflect.Field;
import java.lang.reflect.Method;
import java.lang.reflect.Modifier;
import java.nio.file.Files;
import java.nio.file.Path;
import java.util.ArrayList;
import java.util.Arrays;
import java.util.Collections;
import java.util.List;
import java.util.Set;
import java.util.TreeSet;
import java.util.regex.Matcher;
import java.util.regex.Pattern;

/** What of the document's face and of LANGUAGE.md can be seen from the class and its text. */
public final class RulesTest {
    private static final Due due = new Due();
    private static final int PROMISES = 22;
    private static final List<String> FORBIDDEN = List.of(
        "throw", "throws", "try", "catch", "finally", "synchronized", "assert", "import", "package",
        "volatile", "native", "Object", "Random", "Thread", "hashCode", "toString");

    public static void main(String[] args) throws IOException {
        String document = Files.readString(Path.of("../shared/DOC.md"));
        String text = Files.readString(Path.of("src/main/java/CutTrees.java"));
        checkFace(faceIn(document));
        due.holds("calls and headings stand as in the document: " + orderOf(text),
            orderOf(text).equals(orderDueBy(document)));
        checkMembers(CutTrees.class);
        for (Class<?> inside : CutTrees.class.getDeclaredClasses()) {
            due.holds(inside + " is static", Modifier.isStatic(inside.getModifiers()));
            due.holds(inside + " is not public", !Modifier.isPublic(inside.getModifiers()));
            checkMembers(inside);
        }
        due.holds("at most twelve classes", CutTrees.class.getDeclaredClasses().length <= 12);
        checkText(text);
        due.finish("RulesTest");
    }

    /** The face's lines, such as "public int cut(int set);", without the class's own. */
    private static List<String> linesOfFace(String document) {
        Matcher face = Pattern.compile("(?s)```java\\s*public final class CutTrees \\{(.*?)\\}\\s*```").matcher(document);
        return face.find() ? face.group(1).strip().lines().map(String::strip).toList() : List.of();
    }

    /** Names with types alone, as in "cut(int)"; the constructor is looked at by itself. */
    private static Set<String> faceIn(String document) {
        Set<String> face = new TreeSet<>();
        for (String line : linesOfFace(document)) {
            if (line.startsWith("public int ")) {
                face.add(line.replaceAll("public int |;", "").replaceAll("int \\w+", "int").replace(" ", ""));
            }
        }
        due.is("calls in the document's face", face.size(), PROMISES - 1);
        return face;
    }

    /** The public calls and what is said ahead of them, in the order in which the class has them. */
    private static List<String> orderOf(String text) {
        return Pattern.compile("(?m)^    (?:public (?:int )?(\\w+)\\(|// (---- .*)$)").matcher(text).results()
            .map(found -> found.group(1) != null ? found.group(1) : found.group(2)).toList();
    }

    /** The same by the document; a heading's calls must follow it and come ahead of the next one. */
    private static List<String> orderDueBy(String document) {
        List<String> order = new ArrayList<>();
        for (String line : linesOfFace(document)) {
            order.add(line.replaceAll("public (int )?|\\(.*", ""));
        }
        Matcher ahead = Pattern.compile("Ahead of the calls (.*) the interface says: (---- .*)\\.").matcher(document);
        while (ahead.find()) {
            List<String> calls = List.of(ahead.group(1).replace("`", "").split(", "));
            int first = order.indexOf(calls.get(0));
            due.holds("these calls follow one another: " + calls, Collections.indexOfSubList(order, calls) == first);
            order.add(Math.max(first, 0), ahead.group(2));
        }
        return order;
    }

    private static void checkFace(Set<String> face) {
        due.holds("public and final", CutTrees.class.getModifiers() == (Modifier.PUBLIC | Modifier.FINAL));
        Set<String> open = new TreeSet<>();
        Set<String> hidden = new TreeSet<>();
        for (Method method : CutTrees.class.getDeclaredMethods()) {
            if (Modifier.isPrivate(method.getModifiers())) {
                hidden.add(method.getName());
                continue;
            }
            due.holds(method + " is public and of int", method.getModifiers() == Modifier.PUBLIC
                && method.getReturnType() == int.class);
            String types = String.join(",", Arrays.stream(method.getParameterTypes()).map(Class::getName).toList());
            open.add(method.getName() + "(" + types + ")");
        }
        due.holds("the face is the document's: " + open, open.equals(face));
        for (String name : hidden) {
            due.holds(name + " is no public name", face.stream().noneMatch(call -> call.startsWith(name + "(")));
        }
        for (Field field : CutTrees.class.getDeclaredFields()) {
            due.holds(field + " is private", Modifier.isPrivate(field.getModifiers()));
        }
        Constructor<?>[] constructors = CutTrees.class.getDeclaredConstructors();
        due.holds("one public constructor", constructors.length == 1
            && constructors[0].getModifiers() == Modifier.PUBLIC && constructors[0].getParameterCount() == 0);
    }

    private static void checkMembers(Class<?> type) {
        int fields = 0;
        for (Field field : type.getDeclaredFields()) {
            boolean isStatic = Modifier.isStatic(field.getModifiers());
            due.holds(field + ": static only if final", !isStatic || Modifier.isFinal(field.getModifiers()));
            fields += isStatic ? 0 : 1;
        }
        due.holds(type + " has at most twenty fields", fields <= 20);
        for (Method method : type.getDeclaredMethods()) {
            due.holds(method + " takes at most seven", method.getParameterCount() <= 7);
            due.holds(method + " is written, not made by the compiler", !method.isSynthetic());
        }
    }

    private static void checkText(String text) {
        String code = text.replaceAll("(?s)/\\*.*?\\*/", "").replaceAll("//[^\n]*", "");
        for (String word : FORBIDDEN) {
            Matcher found = Pattern.compile("\\b" + word + "\\b").matcher(code);
            due.holds("no '" + word + "'", !found.find());
        }
        due.holds("no lambda, no method reference", !code.contains("->") && !code.contains("::"));
        Set<String> called = new TreeSet<>();
        Matcher library = Pattern.compile("\\b(Integer|Math|Long|System|Arrays)\\.\\w+").matcher(code);
        while (library.find()) {
            called.add(library.group());
        }
        called.removeAll(List.of("Integer.bitCount", "Integer.MAX_VALUE", "Math.max", "Math.min"));
        due.holds("no other library calls: " + called, called.isEmpty());
        due.holds("characters 0 to 127 alone", text.chars().allMatch(c -> c < 128));
    }
}
