import java.io.IOException;
import java.lang.reflect.Constructor;
import java.lang.reflect.Field;
import java.lang.reflect.Method;
import java.lang.reflect.Modifier;
import java.nio.file.Files;
import java.nio.file.Path;
import java.util.ArrayList;
import java.util.Arrays;
import java.util.List;
import java.util.Set;
import java.util.TreeSet;
import java.util.regex.Matcher;
import java.util.regex.Pattern;

/** The rules of ../shared/LANGUAGE.md that can be seen from the class and from its text. */
public final class LanguageTest {
    private static final Check check = new Check();

    private static final String[] FACE = {
        "agreed(int,int)int", "answer(int,int,int,int,int)int", "answers(int)int", "bar(int,int)int",
        "bottom(int,int,int)int", "changed(int)int", "copied(int)int", "copy(int,int,int,int,int)int",
        "countsIn(int)int", "element(int,int)long", "gain(int,int,int)int", "holds(int)int",
        "how(int,int,int)int", "is(int,int,int)boolean", "judge()int", "know(int,int,int)int",
        "leading(int,int)int", "leave(int)int", "looks(int,int)int", "next(int)int",
        "question(int,int,int)int", "reckon(boolean)int", "rest(int)int", "row(int,int,int)int",
        "set(int,int,long)int", "share(int,int,int)int", "show(int,int)int", "status(int)int",
        "things(int)int", "top(int,int,int,int)int", "total(int,int)int",
    };

    private static final String[] BARRED = {
        "import", "throw", "throws", "try", "catch", "finally", "synchronized", "assert", "record", "yield",
        "double", "float", "var", "volatile", "native", "transient", "hashCode", "toString", "equals",
        "package", "protected", "->", "::", "@", "Exact", "Object", "System\\.(?!arraycopy)",
    };

    private LanguageTest() {
    }

    public static void main(String[] args) throws IOException {
        String text = Files.readString(Path.of("src/main/java/ManyEyes.java"));
        face();
        insides();
        words(withoutComments(text));
        lengths(text);
        check.close();
    }

    private static void face() {
        check.about("rule 1");
        Set<String> shown = new TreeSet<>();
        Set<String> names = new TreeSet<>();
        for (Method m : ManyEyes.class.getDeclaredMethods()) {
            if (Modifier.isPublic(m.getModifiers())) {
                shown.add(told(m));
                names.add(m.getName());
            } else {
                yes(m.getName() + " is private", Modifier.isPrivate(m.getModifiers()));
            }
        }
        Set<String> want = new TreeSet<>(Arrays.asList(FACE));
        yes("the face is " + shown, shown.equals(want));
        for (Class<?> c : classes()) {
            for (Method m : c.getDeclaredMethods()) {
                yes("name of " + m, Modifier.isPublic(m.getModifiers()) || !names.contains(m.getName()));
            }
        }
        for (Field f : ManyEyes.class.getDeclaredFields()) {
            yes(f + " is private", Modifier.isPrivate(f.getModifiers()) || f.getName().equals("NONE"));
        }
        Constructor<?>[] made = ManyEyes.class.getDeclaredConstructors();
        yes("one constructor", made.length == 1 && Modifier.isPublic(made[0].getModifiers()));
        yes("public and final", Modifier.isPublic(ManyEyes.class.getModifiers())
            && Modifier.isFinal(ManyEyes.class.getModifiers()));
    }

    private static String told(Method m) {
        List<String> types = new ArrayList<>();
        for (Class<?> type : m.getParameterTypes()) {
            types.add(type.getName());
        }
        return m.getName() + "(" + String.join(",", types) + ")" + m.getReturnType().getName();
    }

    private static List<Class<?>> classes() {
        List<Class<?>> all = new ArrayList<>();
        all.add(ManyEyes.class);
        all.addAll(Arrays.asList(ManyEyes.class.getDeclaredClasses()));
        return all;
    }

    private static void insides() {
        check.about("rules 2, 5 and 11");
        yes("some twelve classes", classes().size() <= 12);
        for (Class<?> c : classes()) {
            yes(c + " is static", c == ManyEyes.class || Modifier.isStatic(c.getModifiers()));
            yes(c + " holds no class", c == ManyEyes.class || c.getDeclaredClasses().length == 0);
            int fields = 0;
            for (Field f : c.getDeclaredFields()) {
                if (!Modifier.isStatic(f.getModifiers())) {
                    fields++;
                    continue;
                }
                yes(f + " is a constant", Modifier.isFinal(f.getModifiers()) && f.getType().isPrimitive());
            }
            yes(c + " has some twenty fields", fields <= 20);
            for (Method m : c.getDeclaredMethods()) {
                yes(m + " takes seven at most", m.getParameterCount() <= 7);
            }
        }
    }

    private static void words(String text) {
        check.about("rules 3, 4 and 6");
        for (String barred : BARRED) {
            String pattern = barred.matches("[A-Za-z]+") ? "\\b" + barred + "\\b" : barred;
            Matcher found = Pattern.compile(pattern).matcher(text);
            yes("no " + barred, !found.find());
        }
        yes("no text", text.indexOf('"') < 0);
        yes("ASCII alone", text.chars().allMatch(c -> c < 128));
    }

    private static String withoutComments(String text) {
        return Pattern.compile("/\\*.*?\\*/|//[^\n]*", Pattern.DOTALL).matcher(text).replaceAll(" ");
    }

    /** A method starts where a line ends with an opening brace at depth 1 or 2, and ends where it closes. */
    private static void lengths(String text) {
        check.about("rule 11");
        Pattern head = Pattern.compile("^( {4}| {8})[A-Za-z].*\\) \\{$");
        String[] lines = text.split("\n");
        for (int k = 0; k < lines.length; k++) {
            Matcher start = head.matcher(lines[k]);
            if (!start.matches() || lines[k].matches("\\s+(if|for|while|switch)\\b.*")) {
                continue;
            }
            int end = k;
            while (!lines[end].equals(start.group(1) + "}")) {
                end++;
            }
            yes(lines[k].trim() + " is short", end - k < 60);
        }
    }

    private static void yes(String what, boolean holds) {
        check.due(what, holds, true);
    }
}
