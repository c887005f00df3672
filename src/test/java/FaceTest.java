import java.io.IOException;
import java.lang.reflect.Constructor;
import java.lang.reflect.Field;
import java.lang.reflect.Method;
import java.lang.reflect.Modifier;
import java.nio.charset.StandardCharsets;
import java.nio.file.Files;
import java.nio.file.Path;
import java.util.Arrays;
import java.util.Set;
import java.util.TreeSet;
import java.util.regex.Matcher;
import java.util.regex.Pattern;

/** The public face is the document's and no more; the source keeps to the rules that can be read off it. */
public final class FaceTest {
    private static final String[] METHODS = {
        "int cell(int,int,int,int)", "int strip(int)", "int ofCell(int,int,int)", "int reading(int,int,int)",
        "int even(int,int,int)", "int ground(int)", "int patch(int,int,int,int,int)", "int tint(int,int,int)",
        "int blank()", "int speck(int,int)", "int light(int,int,int,int)", "int lead(int,int)", "int pipe(int,int)",
        "int unpipe(int)", "int piped(int)", "int threshold(int)", "int begin(int)", "int ticks(int)", "int take()",
        "int stop()", "int head(int)", "int whole(int,int,int)", "int pixel(int,int,int)", "int grey(int,int)",
        "int dark(int)", "int run(int,int,int)", "int edge(int)", "long skew(int)", "int longest(int)",
        "int streaks()", "int many(int)"};
    private static final String[] FIELDS = {"UNKNOWN", "OUTSIDE", "STATE", "FULL", "NONE", "LOST"};
    private static final String[] RULED_OUT = {
        "throw", "throws", "try", "catch", "finally", "synchronized", "assert", "import", "package", "native",
        "volatile", "hashCode", "toString", "equals"};

    private static final Due DUE = new Due("FaceTest");

    public static void main(String[] args) throws IOException {
        face();
        constants();
        insideClasses();
        source();
        DUE.end();
    }

    private static void face() {
        DUE.holds("final and public", Modifier.isFinal(PageLines.class.getModifiers())
            && Modifier.isPublic(PageLines.class.getModifiers()));
        Set<String> found = new TreeSet<>();
        Set<String> hidden = new TreeSet<>();
        for (Method m : PageLines.class.getDeclaredMethods()) {
            if (Modifier.isPrivate(m.getModifiers())) hidden.add(m.getName());
            else found.add(face(m));
        }
        Set<String> due = new TreeSet<>(Arrays.asList(METHODS));
        DUE.holds("methods " + found, found.equals(due));
        for (String name : due) {
            String bare = name.substring(name.indexOf(' ') + 1, name.indexOf('('));
            DUE.holds("no private method is named " + bare, !hidden.contains(bare));
        }
        Constructor<?>[] made = PageLines.class.getDeclaredConstructors();
        DUE.is("constructors", made.length, 1);
        DUE.holds("the constructor", Modifier.isPublic(made[0].getModifiers()) && made[0].getParameterCount() == 0);
    }

    private static String face(Method m) {
        StringBuilder text = new StringBuilder();
        if (!Modifier.isPublic(m.getModifiers())) text.append("not public ");
        if (Modifier.isStatic(m.getModifiers())) text.append("static ");
        text.append(m.getReturnType().getSimpleName()).append(' ').append(m.getName()).append('(');
        for (int i = 0; i < m.getParameterCount(); i++) {
            text.append(i > 0 ? "," : "").append(m.getParameterTypes()[i].getSimpleName());
        }
        return text.append(')').toString();
    }

    private static void constants() {
        DUE.is("UNKNOWN", PageLines.UNKNOWN, -1);
        DUE.is("OUTSIDE", PageLines.OUTSIDE, -2);
        DUE.is("STATE", PageLines.STATE, -3);
        DUE.is("FULL", PageLines.FULL, -4);
        DUE.is("NONE", PageLines.NONE, -9);
        DUE.is("LOST", PageLines.LOST, Long.MIN_VALUE);
        Set<String> found = new TreeSet<>();
        for (Field f : PageLines.class.getDeclaredFields()) {
            int is = f.getModifiers();
            if (!Modifier.isPrivate(is)) found.add(f.getName());
            DUE.holds("a static field is final: " + f.getName(), !Modifier.isStatic(is) || Modifier.isFinal(is));
        }
        DUE.holds("fields " + found, found.equals(new TreeSet<>(Arrays.asList(FIELDS))));
    }

    private static void insideClasses() {
        Class<?>[] inside = PageLines.class.getDeclaredClasses();
        DUE.holds("at most some twelve classes", inside.length <= 11);
        for (Class<?> c : inside) {
            int is = c.getModifiers();
            DUE.holds(c + " is static", Modifier.isStatic(is));
            DUE.holds(c + " is not seen outside", !Modifier.isPublic(is) && !Modifier.isProtected(is));
            int own = 0;
            for (Field f : c.getDeclaredFields()) {
                boolean isStatic = Modifier.isStatic(f.getModifiers());
                if (!isStatic) own++;
                DUE.holds("no static state: " + f, !isStatic || Modifier.isFinal(f.getModifiers()));
            }
            DUE.holds(c + " has some twenty fields", own <= 20);
        }
    }

    private static void source() throws IOException {
        String text = Files.readString(Path.of("src/main/java/PageLines.java"), StandardCharsets.UTF_8);
        for (int i = 0; i < text.length(); i++) {
            if (text.charAt(i) > 126) DUE.holds("plain signs only, at " + i, false);
        }
        String code = text.replaceAll("(?s)/\\*.*?\\*/", " ").replaceAll("//[^\n]*", " ");
        for (String word : RULED_OUT) {
            Matcher m = Pattern.compile("\\b" + word + "\\b").matcher(code);
            DUE.holds("no " + word, !m.find());
        }
        DUE.holds("no lambda", !code.contains("->"));
        DUE.holds("no method reference", !code.contains("::"));
        DUE.holds("no name that ends in Exact", !code.contains("Exact"));
        methodsAreShort(code);
    }

    /** By the layout of the file: a method begins at 4 or 8 blanks and ends with a brace there. */
    private static void methodsAreShort(String code) {
        String[] lines = code.split("\n", -1);
        for (int i = 0; i < lines.length; i++) {
            Matcher start = Pattern.compile("^( {4}| {8})[a-z][^=;]*\\) \\{$").matcher(lines[i]);
            if (!start.find()) continue;
            int length = 1;
            while (i + length < lines.length && !lines[i + length].equals(start.group(1) + "}")) length++;
            DUE.holds("a short method at line " + (i + 1), length <= 60);
        }
    }
}
