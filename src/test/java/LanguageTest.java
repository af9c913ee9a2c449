import java.io.IOException;
import java.lang.reflect.Constructor;
import java.lang.reflect.Field;
import java.lang.reflect.Method;
import java.lang.reflect.Modifier;
import java.nio.charset.StandardCharsets;
import java.nio.file.Files;
import java.nio.file.Path;
import java.util.Arrays;
import java.util.HashSet;
import java.util.Set;
import java.util.TreeSet;
import java.util.regex.Matcher;
import java.util.regex.Pattern;

/** The face as the document declares it, and what can be seen of LANGUAGE.md's rules without reading. */
public final class LanguageTest {
    private static final Check check = new Check();
    private static final String[] FACE = {
        "change(int,int,int,int)", "changes(int,int,int,long)", "cut(int,int,int)", "value(int,int,int)",
        "rule(int,int)", "call(int,int,int)", "shift(int,int)", "mask(int,int,int)", "maskWhile(int,int,int)",
        "noMasks()", "differences()", "difference(int,int)", "first()", "channel(int,int,int,int,int)",
        "act(int,int,int,int)", "unlike(int)", "fit(int)", "gate(int,int,int,int)", "guilty(int)", "alike(int)",
        "holds(int,int,int,int,int,int,int,int)", "window(int,int,int,int,int)", "count(int)"};

    public static void main(String[] args) throws IOException {
        face();
        classesInside();
        source();
        check.end();
    }

    private static String signature(Method m) {
        StringBuilder types = new StringBuilder();
        for (Class<?> type : m.getParameterTypes()) {
            types.append(types.length() == 0 ? "" : ",").append(type.getName());
        }
        return m.getName() + "(" + types + ")";
    }

    private static void face() {
        Class<?> c = WavePairs.class;
        check.yes("public and final", Modifier.isPublic(c.getModifiers()) && Modifier.isFinal(c.getModifiers()));
        Set<String> found = new TreeSet<>();
        Set<String> names = new HashSet<>();
        for (Method m : c.getDeclaredMethods()) {
            if (Modifier.isPublic(m.getModifiers())) {
                found.add(signature(m));
                names.add(m.getName());
                check.yes(m + " answers int", m.getReturnType() == int.class && !Modifier.isStatic(m.getModifiers()));
            } else {
                check.yes(m + " is private", Modifier.isPrivate(m.getModifiers()));
            }
        }
        check.yes("the document's methods " + found, found.equals(new TreeSet<>(Arrays.asList(FACE))));
        for (Method m : c.getDeclaredMethods()) {
            check.yes(m + " has its own name", Modifier.isPublic(m.getModifiers()) || !names.contains(m.getName()));
            // The document's face gives holds eight.
            check.yes(m + " takes seven at most", m.getParameterCount() <= 7 || m.getName().equals("holds"));
        }
        Set<String> constants = new TreeSet<>();
        for (Field f : c.getDeclaredFields()) {
            if (Modifier.isPublic(f.getModifiers())) {
                constants.add(f.getName());
            } else {
                check.yes(f + " is private", Modifier.isPrivate(f.getModifiers()));
            }
            check.yes(f + " is no static state",
                !Modifier.isStatic(f.getModifiers()) || Modifier.isFinal(f.getModifiers()));
        }
        check.yes("the constants " + constants, constants.equals(Set.of("BAD", "NO", "FULL", "NONE")));
        Constructor<?>[] made = c.getDeclaredConstructors();
        check.yes("one constructor", made.length == 1 && made[0].getParameterCount() == 0
            && Modifier.isPublic(made[0].getModifiers()));
        check.due("BAD", WavePairs.BAD, -1);
        check.due("NO", WavePairs.NO, -2);
        check.due("FULL", WavePairs.FULL, -3);
        check.due("NONE", WavePairs.NONE, -4);
    }

    private static void classesInside() {
        Class<?>[] inside = WavePairs.class.getDeclaredClasses();
        check.yes("at most some twelve classes", inside.length <= 11);
        for (Class<?> c : inside) {
            int m = c.getModifiers();
            check.yes(c + " is static", Modifier.isStatic(m));
            check.yes(c + " is not public", !Modifier.isPublic(m) && !Modifier.isProtected(m));
            check.yes(c + " has some twenty fields", c.getDeclaredFields().length <= 20);
            for (Method method : c.getDeclaredMethods()) {
                check.yes(method + " takes seven at most", method.getParameterCount() <= 7);
            }
        }
    }

    private static void source() throws IOException {
        Path file = Path.of("src/main/java/WavePairs.java");
        String text = Files.readString(file, StandardCharsets.ISO_8859_1);
        String code = text.replaceAll("(?s)/\\*.*?\\*/", "").replaceAll("//[^\n]*", "");
        Matcher m = Pattern.compile("\\b(import|package|throw|throws|try|catch|finally|synchronized|assert|equals"
            + "|hashCode|toString|Thread|Random|Object|\\w+Exact)\\b|System\\.(?!arraycopy)|->|::").matcher(code);
        while (m.find()) {
            check.yes("'" + m.group() + "' is left out", false);
        }
        int top = 0;
        for (String line : code.split("\n")) {
            if (line.startsWith("public ") || line.startsWith("class ") || line.startsWith("final ")) {
                top++;
            }
        }
        check.due("one class in the file", top, 1);
    }
}
