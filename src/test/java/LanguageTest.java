import java.io.IOException;
import java.lang.reflect.Field;
import java.lang.reflect.Method;
import java.lang.reflect.Modifier;
import java.nio.file.Files;
import java.nio.file.Paths;
import java.util.ArrayList;
import java.util.Arrays;
import java.util.List;
import java.util.regex.Matcher;
import java.util.regex.Pattern;

/** The rules of LANGUAGE.md that can be told from the source and from the classes. */
final class LanguageTest {
    private static final String[] NEVER = {"\\bpackage\\b", "->", "::", "\\bcatch\\b", "\\btry\\b", "\\bfinally\\b",
        "\\bassert\\b", "\\bsynchronized\\b", "\\bvar\\b", "\\bObject\\b", "\\bSystem\\.(?!arraycopy)", "\\bThread\\b",
        "\\bfloat\\b", "\\bdouble\\b", "Exact\\(", "\\bstatic\\s*\\{", "\\bextends\\b", "\\bequals\\(", "\\bhashCode\\b",
        "\\btoString\\b"};
    private static final List<String> IMPORTS = Arrays.asList("java.util.Arrays", "java.util.NoSuchElementException");
    private static final List<String> THROWN = Arrays.asList("IllegalStateException", "IllegalArgumentException",
        "NoSuchElementException");

    private final Check check = new Check();
    private final String source;

    private LanguageTest(String source) {
        this.source = source;
    }

    public static void main(String[] args) throws IOException {
        LanguageTest test = new LanguageTest(Files.readString(Paths.get("src", "main", "java", "HartDesk.java")));
        test.noOtherWords();
        test.imports();
        test.thrownClasses();
        test.methodsAreShort();
        test.classes();
        test.check.end();
    }

    private String bare() {
        return source.replaceAll("//[^\n]*", "").replaceAll("\"[^\"\n]*\"", "\"\"");
    }

    // Rules 1, 2, 4, 5, 6, 13: what the class has no need of, though some of it would be allowed.
    private void noOtherWords() {
        for (String each : NEVER) {
            Matcher found = Pattern.compile(each).matcher(bare());
            check.no("the source has " + each, found.find());
        }
    }

    // Rule 4.
    private void imports() {
        List<String> seen = new ArrayList<>();
        Matcher found = Pattern.compile("(?m)^import ([^;]*);").matcher(source);
        while (found.find()) {
            seen.add(found.group(1));
        }
        check.yes("the imports are " + seen, seen.equals(IMPORTS));
        Matcher calls = Pattern.compile("\\bArrays\\.(\\w+)").matcher(bare().replaceAll("(?m)^import.*", ""));
        while (calls.find()) {
            check.yes("Arrays." + calls.group(1), Arrays.asList("fill", "copyOf", "copyOfRange").contains(calls.group(1)));
        }
    }

    // Rule 6: each throw makes one of the document's exceptions, with a written text.
    private void thrownClasses() {
        Matcher found = Pattern.compile("\\bthrow\\b([^;]*);").matcher(source);
        int count = 0;
        while (found.find()) {
            Matcher made = Pattern.compile(" new (\\w+)\\((\"[^\"]*\")?\\)").matcher(found.group(1));
            check.yes("throw" + found.group(1), made.matches() && THROWN.contains(made.group(1)));
            count++;
        }
        check.same("throws", count, 5);
    }

    // Rule 11: some sixty lines. A method's head ends with a brace, and its end stands as far in as the head.
    private void methodsAreShort() {
        String[] lines = source.split("\n");
        Pattern head = Pattern.compile("( +)(public|private) [^=;]*\\(.*\\{");
        int methods = 0;
        for (int k = 0; k < lines.length; k++) {
            Matcher found = head.matcher(lines[k]);
            if (found.matches()) {
                int end = k;
                while (end < lines.length && !lines[end].equals(found.group(1) + "}")) {
                    end++;
                }
                check.yes("short:" + lines[k], end - k < 60);
                methods++;
            }
        }
        check.yes("methods were found", methods > 40);
    }

    // Rules 1, 2, 5, 11.
    private void classes() {
        Class<?>[] inside = HartDesk.class.getDeclaredClasses();
        check.yes("at most twelve classes", inside.length < 12);
        members(HartDesk.class);
        for (Class<?> each : inside) {
            check.yes(each + " is static", Modifier.isStatic(each.getModifiers()));
            check.no(each + " is open", Modifier.isPublic(each.getModifiers()) || Modifier.isProtected(each.getModifiers()));
            members(each);
        }
    }

    private void members(Class<?> each) {
        int fields = 0;
        for (Field field : each.getDeclaredFields()) {
            boolean isStatic = Modifier.isStatic(field.getModifiers());
            fields += isStatic ? 0 : 1;
            check.yes(field + " is final if static", !isStatic || Modifier.isFinal(field.getModifiers()));
        }
        check.yes(each + " has at most twenty fields", fields <= 20);
        for (Method method : each.getDeclaredMethods()) {
            check.yes(method + " has at most seven parameters", method.getParameterCount() <= 7);
        }
    }
}
