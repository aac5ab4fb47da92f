import java.lang.reflect.Field;
import java.lang.reflect.Method;
import java.lang.reflect.Modifier;
import java.nio.file.Files;
import java.nio.file.Path;
import java.util.ArrayList;
import java.util.List;
import java.util.Set;
import java.util.TreeSet;
import java.util.regex.Matcher;
import java.util.regex.Pattern;

/** What LANGUAGE.md rules out, as far as a look at the source and at the class can find it. */
public final class LanguageTest {
    private static final String[] RULED_OUT = {
        "^import ", "^package ", "->", "::", "\\bcatch\\b", "\\bthrow\\b", "\\btry\\b", "\\bfinally\\b",
        "\\bassert\\b", "\\bsynchronized\\b", "\\binstanceof\\b", "\\bdouble\\b", "\\bfloat\\b",
        "Exact\\(", "\\bSystem\\.(?!arraycopy)", "\\bnull\\b", "\" *\\+|\\+ *\"", "^ *static *\\{",
        "\\bwhile \\(true\\)", "for \\(;;\\)", "\\[\\]\\[\\]\\[\\]", "[^\\x00-\\x7f]",
    };
    private static final Set<String> LIBRARY = Set.of("Math.max", "Math.min", "Integer.bitCount", "System.arraycopy");
    private static final int LONGEST_METHOD = 60;
    private static final int MOST_PARAMETERS = 7;
    private static final int MOST_CLASSES = 12;
    private static final int MOST_FIELDS = 20;
    private static final Check check = new Check("language");

    public static void main(String[] args) throws Exception {
        String source = Files.readString(Path.of("src/main/java/GreyByFriday.java"));
        String code = source.replaceAll("//[^\n]*", "").replaceAll("(?s)/\\*.*?\\*/", "");
        words(code);
        library(code);
        methodsAreShort(code);
        nothingIsMadeBehindTheConstructors(code);
        List<Class<?>> classes = new ArrayList<>(List.of(GreyByFriday.class.getDeclaredClasses()));
        for (Class<?> inner : classes) {
            inside(inner);
        }
        classes.add(GreyByFriday.class);
        check.due("classes", classes.size() <= MOST_CLASSES ? 1 : 0, 1);
        for (Class<?> each : classes) {
            fields(each);
            methods(each);
        }
        check.end();
    }

    private static void words(String code) {
        for (String pattern : RULED_OUT) {
            Matcher found = Pattern.compile(pattern, Pattern.MULTILINE).matcher(code);
            check.due("holds " + pattern, found.find() ? 1 : 0, 0);
        }
    }

    private static void library(String code) {
        Matcher call = Pattern.compile("\\b[A-Z]\\w*[a-z]\\w*\\.[a-z]\\w*(?=\\()").matcher(code);
        int calls = 0;
        while (call.find()) {
            check.due(call.group() + " is in the library", LIBRARY.contains(call.group()) ? 1 : 0, 1);
            calls++;
        }
        check.due("calls were found", calls > 0 ? 1 : 0, 1);
    }

    /** A method begins with a head at the depth of its class and ends with the brace below that head. */
    private static void methodsAreShort(String code) {
        Matcher method = Pattern.compile("(?ms)^( {4}| {8})(?=\\S)(?!if|for|while|switch|else|\\})[^\n;={]*\\([^;={]*?\\) \\{\n.*?^\\1\\}\n")
                .matcher(code);
        int methods = 0;
        while (method.find()) {
            int lines = method.group().split("\n").length;
            check.due(method.group().split("\n")[0].trim() + " is short", lines <= LONGEST_METHOD ? 1 : 0, 1);
            methods++;
        }
        check.due("methods were found", methods > 50 ? 1 : 0, 1);
    }

    /** Only field lines and the constructors' own lines hold a 'new', so that calls use no room. */
    private static void nothingIsMadeBehindTheConstructors(String code) {
        String rest = code.replaceAll("(?ms)^( +)(?:public )?(?:GreyByFriday|Shelf)\\([^)]*\\) \\{\n.*?^\\1\\}\n", "")
                .replaceAll("(?m)^ +final int\\[\\] \\w+ = new int\\[[^\n]*;\n", "");
        check.due("'new' in a method", Pattern.compile("\\bnew\\b").matcher(rest).find() ? 1 : 0, 0);
    }

    private static void inside(Class<?> inner) {
        int modifiers = inner.getModifiers();
        check.due(inner + " is static", Modifier.isStatic(modifiers) ? 1 : 0, 1);
        check.due(inner + " is not seen", Modifier.isPublic(modifiers) || Modifier.isProtected(modifiers) ? 1 : 0, 0);
        check.due(inner + " holds no class", inner.getDeclaredClasses().length, 0);
    }

    private static void fields(Class<?> each) {
        int own = 0;
        for (Field f : each.getDeclaredFields()) {
            if (Modifier.isStatic(f.getModifiers())) {
                check.due(f + " is final", Modifier.isFinal(f.getModifiers()) ? 1 : 0, 1);
                check.due(f + " is a constant", f.getType() == int.class || f.getType() == String.class ? 1 : 0, 1);
            } else {
                own++;
            }
        }
        check.due(each + " has few fields", own <= MOST_FIELDS ? 1 : 0, 1);
    }

    private static void methods(Class<?> each) {
        Set<String> face = new TreeSet<>();
        for (Method m : GreyByFriday.class.getDeclaredMethods()) {
            if (Modifier.isPublic(m.getModifiers())) {
                face.add(m.getName());
            }
        }
        for (Method m : each.getDeclaredMethods()) {
            check.due(m + " takes few", m.getParameterCount() <= MOST_PARAMETERS ? 1 : 0, 1);
            if (!Modifier.isPublic(m.getModifiers())) {
                check.due(m + " bears a name of the face", face.contains(m.getName()) ? 1 : 0, 0);
            }
        }
    }
}
