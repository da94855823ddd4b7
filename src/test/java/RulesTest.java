import java.io.IOException;
import java.lang.reflect.Constructor;
import java.lang.reflect.Field;
import java.lang.reflect.Method;
import java.lang.reflect.Modifier;
import java.nio.file.Files;
import java.nio.file.Path;
import java.util.HashSet;
import java.util.List;
import java.util.Set;
import java.util.TreeMap;
import java.util.TreeSet;
import java.util.regex.Matcher;
import java.util.regex.Pattern;

/** The face of the class, and the rules of LANGUAGE.md that can be read from the class and its text. */
public final class RulesTest {
    private static final Check check = new Check();

    private static final String[] FACE = {
        "begin", "write int int int", "finish int", "tear int", "save int", "putAway int", "flood", "blur int",
        "mend int", "ofPage int int", "ofWork int int", "ofEntry int int", "count int", "stepsToMend",
        "wouldBe int", "firstNeeded", "settled int", "put long", "wipe", "fault", "carryOut", "undo",
        "keep int", "bring int"};

    private static final String CONSTANTS = "{BACK=2, BAD_TEXT=-3, BAD_VALUE=-2, BEGUN=0, DONE=3, FINISHED=1, LEFT=4, "
        + "NONE=-6, NOT_POSSIBLE=-5, NO_SUCH=-1, OPEN=0, TOO_MANY=-4, TORN=2, WRITTEN=1}";

    private static final String[] FORBIDDEN = {
        "\\bthrow\\b", "\\btry\\b", "\\bcatch\\b", "\\bsynchronized\\b", "\\bassert\\b", "\\bimport\\b", "\\bpackage\\b",
        "->", "::", "Exact\\b", "@Override", "\\bhashCode\\b", "\\bSystem\\.(?!arraycopy)", "Math\\.random",
        "\\bstatic\\s*\\{", "[^\\x00-\\x7e]", "\\bprotected\\b", "\\bObject\\b"};

    private RulesTest() { }

    public static void main(String[] args) throws IOException, IllegalAccessException {
        face();
        constants();
        classesInside();
        text();
        check.end();
    }

    private static String signature(Method method) {
        StringBuilder text = new StringBuilder(method.getName());
        for (Class<?> type : method.getParameterTypes()) {
            text.append(' ').append(type.getName());
        }
        return text.toString();
    }

    private static void face() {
        check.about("rule 1, methods");
        Set<String> found = new TreeSet<>();
        Set<String> publicNames = new HashSet<>();
        for (Method method : FloodDiary.class.getDeclaredMethods()) {
            if (Modifier.isPublic(method.getModifiers())) {
                found.add(signature(method));
                publicNames.add(method.getName());
                check.holds(method + " returns an int of an object",
                    method.getReturnType() == int.class && !Modifier.isStatic(method.getModifiers()));
            }
        }
        check.holds("the face is " + found, found.equals(new TreeSet<>(List.of(FACE))));
        for (Method method : FloodDiary.class.getDeclaredMethods()) {
            check.holds(method + " is public or private",
                Modifier.isPublic(method.getModifiers()) || Modifier.isPrivate(method.getModifiers()));
            check.holds(method + " has a name of its own",
                Modifier.isPublic(method.getModifiers()) || !publicNames.contains(method.getName()));
        }
        Constructor<?>[] constructors = FloodDiary.class.getDeclaredConstructors();
        check.holds("one public constructor without parameters", constructors.length == 1
            && Modifier.isPublic(constructors[0].getModifiers()) && constructors[0].getParameterCount() == 0);
        int modifiers = FloodDiary.class.getModifiers();
        check.holds("the class is public and final", Modifier.isPublic(modifiers) && Modifier.isFinal(modifiers));
    }

    private static void constants() throws IllegalAccessException {
        check.about("rule 1, constants");
        TreeMap<String, Integer> found = new TreeMap<>();
        for (Field field : FloodDiary.class.getDeclaredFields()) {
            int modifiers = field.getModifiers();
            if (Modifier.isPublic(modifiers)) {
                check.holds(field + " is a constant", Modifier.isStatic(modifiers) && Modifier.isFinal(modifiers));
                found.put(field.getName(), field.getInt(null));
            } else {
                check.holds(field + " is private", Modifier.isPrivate(modifiers));
            }
        }
        check.holds("the constants are " + found, found.toString().equals(CONSTANTS));
    }

    private static void classesInside() {
        check.about("rules 2, 5 and 11");
        Class<?>[] inside = FloodDiary.class.getDeclaredClasses();
        check.holds("some twelve classes", inside.length < 12);
        for (Class<?> type : inside) {
            check.holds(type + " is static and not public", Modifier.isStatic(type.getModifiers())
                && !Modifier.isPublic(type.getModifiers()) && !Modifier.isProtected(type.getModifiers()));
            int fields = 0;
            for (Field field : type.getDeclaredFields()) {
                boolean isStatic = Modifier.isStatic(field.getModifiers());
                check.holds(field + " is final if it is static", !isStatic || Modifier.isFinal(field.getModifiers()));
                fields += isStatic ? 0 : 1;
            }
            check.holds(type + " has some twenty fields", fields <= 20);
            for (Method method : type.getDeclaredMethods()) {
                check.holds(method + " has at most seven parameters", method.getParameterCount() <= 7);
            }
        }
    }

    private static void text() throws IOException {
        check.about("the text of the program");
        String text = Files.readString(Path.of("src/main/java/FloodDiary.java"))
            .replaceAll("(?s)/\\*.*?\\*/", "").replaceAll("//[^\n]*", "");
        for (String pattern : FORBIDDEN) {
            check.holds("nothing like " + pattern, !Pattern.compile(pattern).matcher(text).find());
        }
        int longest = longestMethod(text);
        check.holds("the longest method, of " + longest + " lines, is short", longest > 5 && longest <= 60);
    }

    /** Relies on the indentation: a head stands 4 or 8 blanks in, its closing bracket as far. */
    private static int longestMethod(String text) {
        Matcher method = Pattern.compile("(?m)^( {4}| {8})\\w[^;\\n]*\\) \\{\\n(?:\\1 .*\\n|\\s*\\n)*\\1\\}$").matcher(text);
        int longest = 0;
        while (method.find()) {
            longest = Math.max(longest, method.group().split("\n").length);
        }
        return longest;
    }
}
