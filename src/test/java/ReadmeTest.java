import java.io.IOException;
import java.lang.reflect.InvocationTargetException;
import java.lang.reflect.Method;
import java.lang.reflect.Modifier;
import java.util.ArrayList;
import java.util.List;
import java.util.Set;
import java.util.TreeSet;
import java.util.regex.Matcher;
import java.util.regex.Pattern;

/** README.md: the calls that it shows are made, and answer as it says; it leaves no call and no test out. */
public final class ReadmeTest {
    private static final String START = "PageLines x = new PageLines();";
    private static final Pattern CALL = Pattern.compile("x\\.(\\w+)\\(([-0-9, ]*)\\); +// (-?\\d+|[A-Z]+): \\S.*");
    private static final Set<String> NAMES = Set.of("UNKNOWN", "OUTSIDE", "STATE", "FULL", "NONE", "LOST");
    private static final int MOST_CALLS = 512;

    private static final Due DUE = new Due("ReadmeTest");
    private static final Set<String> SHOWN = new TreeSet<>();

    public static void main(String[] args) throws IOException, ReflectiveOperationException {
        Readme readme = new Readme();
        List<List<String>> blocks = readme.blocks("java");
        DUE.holds("README.md shows calls", !blocks.isEmpty());
        for (List<String> block : blocks) calls(block);
        nothingIsLeftOut();
        testsAreTold(readme);
        DUE.end();
    }

    private static void calls(List<String> block) throws ReflectiveOperationException {
        DUE.same("a block's first line", block.isEmpty() ? "" : block.get(0), START);
        DUE.holds("no more calls than an object is good for", block.size() <= MOST_CALLS);
        PageLines x = new PageLines();
        for (String line : block.subList(1, block.size())) {
            Matcher m = CALL.matcher(line);
            if (m.matches()) call(x, line, m);
            else DUE.same("README.md: this is no call with its answer", line, "x.name(numbers); // answer: why");
        }
    }

    private static void call(PageLines x, String line, Matcher m) throws ReflectiveOperationException {
        Integer[] numbers = numbers(m.group(2));
        Method method = method(m.group(1), numbers.length);
        if (method == null) {
            DUE.holds("README.md: there is such a call: " + line, false);
            return;
        }
        Object answer = answer(x, method, numbers);
        DUE.same(line, String.valueOf(answer), String.valueOf(due(m.group(3))));
        SHOWN.add(m.group(1));
        SHOWN.add(m.group(3));
    }

    private static Object answer(PageLines x, Method method, Integer[] numbers) throws ReflectiveOperationException {
        try {
            return method.invoke(x, (Object[]) numbers);
        } catch (InvocationTargetException thrown) {
            return thrown.getCause();
        }
    }

    private static Integer[] numbers(String text) {
        List<Integer> found = new ArrayList<>();
        for (String number : text.split(",")) {
            if (!number.isBlank()) found.add(Integer.valueOf(number.trim()));
        }
        return found.toArray(new Integer[0]);
    }

    private static Method method(String name, int parameters) {
        for (Method m : PageLines.class.getDeclaredMethods()) {
            if (Modifier.isPublic(m.getModifiers()) && m.getName().equals(name) && m.getParameterCount() == parameters) return m;
        }
        return null;
    }

    private static Object due(String answer) throws ReflectiveOperationException {
        return NAMES.contains(answer) ? PageLines.class.getDeclaredField(answer).get(null) : answer;
    }

    private static void nothingIsLeftOut() {
        for (Method m : PageLines.class.getDeclaredMethods()) {
            if (Modifier.isPublic(m.getModifiers())) DUE.holds("README.md shows " + m.getName(), SHOWN.contains(m.getName()));
        }
        for (String name : NAMES) DUE.holds("README.md shows an answer " + name, SHOWN.contains(name));
    }

    private static void testsAreTold(Readme readme) throws IOException {
        Set<String> told = new TreeSet<>(readme.tableFirsts());
        told.remove("test");
        DUE.same("the tests that README.md tells", told.toString(), Readme.testsOfTheProject().toString());
    }
}
