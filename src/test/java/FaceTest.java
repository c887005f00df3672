import java.io.IOException;
import java.lang.reflect.Constructor;
import java.lang.reflect.Field;
import java.lang.reflect.Method;
import java.lang.reflect.Modifier;
import java.nio.charset.StandardCharsets;
import java.nio.file.Files;
import java.nio.file.Path;
import java.util.ArrayList;
import java.util.Arrays;
import java.util.List;
import java.util.Map;
import java.util.Set;
import java.util.TreeMap;
import java.util.TreeSet;
import java.util.regex.Matcher;
import java.util.regex.Pattern;

/** The public face is the document's and no more; the source keeps to the rules that can be read off it. */
public final class FaceTest {
    private static final String[] METHODS = {
        "int cell(int,int,int,int)", "int strip(int)", "int ofCell(int,int,int)", "int reading(int,int,int)",
        "int even(int,int,int)", "int ground(int)", "int patch(int,int,int,int,int)", "int tint(int,int,int)",
        "int blank()", "int speck(int,int)", "int light(int,int,int,int)", "int lead(int,int)", "int pipe(int,int)",
        "int unpipe(int)", "int piped(int)", "int threshold(int)", "int begin(int)", "int ticks(int)", "int take()",
        "int stop()", "int head(int)", "int whole(int,int,int)", "int pixel(int,int,int)", "int grey(int,int)",
        "int dark(int)", "int run(int,int,int)", "int edge(int)", "long skew(int)", "int longest(int)",
        "int streaks()", "int many(int)"};
    private static final String[] FIELDS = {"UNKNOWN", "OUTSIDE", "STATE", "FULL", "NONE", "LOST"};
    private static final String[] RULED_OUT = {
        "throw", "throws", "try", "catch", "finally", "synchronized", "assert", "import", "package", "native",
        "volatile", "hashCode", "toString", "equals"};

    private static final Due DUE = new Due("FaceTest");

    public static void main(String[] args) throws IOException {
        face();
        constants();
        insideClasses();
        source();
        DUE.end();
    }

    private static void face() {
        DUE.holds("final and public", Modifier.isFinal(PageLines.class.getModifiers())
            && Modifier.isPublic(PageLines.class.getModifiers()));
        Set<String> found = new TreeSet<>();
        Set<String> hidden = new TreeSet<>();
        for (Method m : PageLines.class.getDeclaredMethods()) {
            if (Modifier.isPrivate(m.getModifiers())) hidden.add(m.getName());
            else found.add(face(m));
        }
        Set<String> due = new TreeSet<>(Arrays.asList(METHODS));
        DUE.holds("methods " + found, found.equals(due));
        for (String name : due) {
            String bare = name.substring(name.indexOf(' ') + 1, name.indexOf('('));
            DUE.holds("no private method is named " + bare, !hidden.contains(bare));
        }
        Constructor<?>[] made = PageLines.class.getDeclaredConstructors();
        DUE.is("constructors", made.length, 1);
        DUE.holds("the constructor", Modifier.isPublic(made[0].getModifiers()) && made[0].getParameterCount() == 0);
    }

    private static String face(Method m) {
        StringBuilder text = new StringBuilder();
        if (!Modifier.isPublic(m.getModifiers())) text.append("not public ");
        if (Modifier.isStatic(m.getModifiers())) text.append("static ");
        text.append(m.getReturnType().getSimpleName()).append(' ').append(m.getName()).append('(');
        for (int i = 0; i < m.getParameterCount(); i++) {
            text.append(i > 0 ? "," : "").append(m.getParameterTypes()[i].getSimpleName());
        }
        return text.append(')').toString();
    }

    private static void constants() {
        DUE.is("UNKNOWN", PageLines.UNKNOWN, -1);
        DUE.is("OUTSIDE", PageLines.OUTSIDE, -2);
        DUE.is("STATE", PageLines.STATE, -3);
        DUE.is("FULL", PageLines.FULL, -4);
        DUE.is("NONE", PageLines.NONE, -9);
        DUE.is("LOST", PageLines.LOST, Long.MIN_VALUE);
        Set<String> found = new TreeSet<>();
        for (Field f : PageLines.class.getDeclaredFields()) {
            int is = f.getModifiers();
            if (!Modifier.isPrivate(is)) found.add(f.getName());
            DUE.holds("a static field is final: " + f.getName(), !Modifier.isStatic(is) || Modifier.isFinal(is));
        }
        DUE.holds("fields " + found, found.equals(new TreeSet<>(Arrays.asList(FIELDS))));
    }

    private static void insideClasses() {
        Class<?>[] inside = PageLines.class.getDeclaredClasses();
        DUE.holds("at most some twelve classes", inside.length <= 11);
        for (Class<?> c : inside) {
            int is = c.getModifiers();
            DUE.holds(c + " is static", Modifier.isStatic(is));
            DUE.holds(c + " is not seen outside", !Modifier.isPublic(is) && !Modifier.isProtected(is));
            int own = 0;
            for (Field f : c.getDeclaredFields()) {
                boolean isStatic = Modifier.isStatic(f.getModifiers());
                if (!isStatic) own++;
                DUE.holds("no static state: " + f, !isStatic || Modifier.isFinal(f.getModifiers()));
            }
            DUE.holds(c + " has some twenty fields", own <= 20);
            fewParameters(c);
        }
        fewParameters(PageLines.class);
    }

    private static void fewParameters(Class<?> c) {
        for (Method m : c.getDeclaredMethods()) DUE.holds("seven parameters at most: " + m, m.getParameterCount() <= 7);
        for (Constructor<?> m : c.getDeclaredConstructors()) {
            DUE.holds("seven parameters at most: " + m, m.getParameterCount() <= 7);
        }
    }

    private static void source() throws IOException {
        String text = Files.readString(Path.of("src/main/java/PageLines.java"), StandardCharsets.UTF_8);
        for (int i = 0; i < text.length(); i++) {
            if (text.charAt(i) > 126) DUE.holds("plain signs only, at " + i, false);
        }
        String code = text.replaceAll("(?s)/\\*.*?\\*/", " ").replaceAll("//[^\n]*", " ");
        for (String word : RULED_OUT) {
            Matcher m = Pattern.compile("\\b" + word + "\\b").matcher(code);
            DUE.holds("no " + word, !m.find());
        }
        DUE.holds("no lambda", !code.contains("->"));
        DUE.holds("no method reference", !code.contains("::"));
        DUE.holds("no name that ends in Exact", !code.contains("Exact"));
        Map<String, List<String>> methods = methods(code);
        DUE.holds("the methods are found", methods.size() > METHODS.length);
        methodsAreShort(methods);
        callsAreNotDeep(methods);
    }

    /** By the layout of the file: a method begins at 4 or 8 blanks and ends with a brace there. */
    private static Map<String, List<String>> methods(String code) {
        Map<String, List<String>> found = new TreeMap<>();
        String[] lines = code.split("\n", -1);
        for (int i = 0; i < lines.length; i++) {
            Matcher start = Pattern.compile("^( {4}| {8})\\w[^=;(]*?(\\w+)\\([^=;]*\\) \\{$").matcher(lines[i]);
            if (!start.find()) continue;
            List<String> body = new ArrayList<>();
            for (int j = i + 1; j < lines.length && !lines[j].equals(start.group(1) + "}"); j++) body.add(lines[j]);
            DUE.holds("no two methods are named " + start.group(2), found.put(start.group(2), body) == null);
        }
        return found;
    }

    private static void methodsAreShort(Map<String, List<String>> methods) {
        for (Map.Entry<String, List<String>> m : methods.entrySet()) {
            DUE.holds(m.getKey() + " is short", m.getValue().size() <= 60);
        }
    }

    private static void callsAreNotDeep(Map<String, List<String>> methods) {
        for (String name : methods.keySet()) {
            DUE.holds("calls from " + name + " go at most eight deep", depth(methods, name, 1) <= 8);
        }
    }

    /** The most calls that stand open at once, if this one is at a level; a recursion goes too deep. */
    private static int depth(Map<String, List<String>> methods, String name, int level) {
        if (level > 20 || !methods.containsKey(name)) return level;
        int most = level;
        Matcher call = Pattern.compile("\\b(\\w+)\\(").matcher(String.join("\n", methods.get(name)));
        while (call.find()) {
            if (!call.group(1).matches("if|for|while|switch|return")) {
                most = Math.max(most, depth(methods, call.group(1), level + 1));
            }
        }
        return most;
    }
}
