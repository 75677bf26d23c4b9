import java.io.IOException;
import java.lang.reflect.Constructor;
import java.lang.reflect.Field;
import java.lang.reflect.Method;
import java.lang.reflect.Modifier;
import java.nio.file.Files;
import java.nio.file.Path;
import java.util.ArrayList;
import java.util.Arrays;
import java.util.List;
import java.util.Set;
import java.util.TreeSet;
import java.util.regex.Matcher;
import java.util.regex.Pattern;

/**
 * The public face is the document's, no more and no less; the words that LANGUAGE.md rules out are not used, and its
 * limits are kept.
 */
public final class FaceTest {
    private static final String[] METHODS = {
        "write 1", "erase 0", "fault 0", "tell 0", "cell 2", "put 3", "key 5", "lock 2", "door 3", "join 1",
        "tear 1", "delay 2", "aim 3", "send 2", "store 2", "read 2", "add 3", "swap 4", "receive 2", "step 1",
        "tick 1", "take 1", "taken 1", "end 2", "open 3", "packet 1", "count 1"
    };
    private static final Set<Class<?>> STATIC_TYPES = Set.of(
            int.class, long.class, boolean.class, char.class, String.class,
            int[].class, long[].class, char[].class, byte[].class);
    private static final Pattern METHOD_HEAD = Pattern.compile(
            "( {4}| {8})(public |private |static )*(int |void |boolean |[A-Z]\\w* )?\\w+\\([^()]*\\) \\{");

    public static void main(String[] args) throws IOException {
        Check check = new Check();
        constants(check);
        methods(check);
        limits(check);
        if (args.length > 0) {
            String source = Files.readString(Path.of(args[0]));
            words(check, source);
            lengths(check, source);
        }
        check.finish();
    }

    private static void constants(Check check) {
        check.is("NONE", RemoteCells.NONE, -1);
        check.is("UNKNOWN", RemoteCells.UNKNOWN, -1001);
        check.is("OUTSIDE", RemoteCells.OUTSIDE, -1002);
        check.is("NOT", RemoteCells.NOT, -1003);
        check.is("FULL", RemoteCells.FULL, -1004);
        Set<String> visible = new TreeSet<>();
        for (Field field : RemoteCells.class.getDeclaredFields()) {
            if (!Modifier.isPrivate(field.getModifiers())) {
                visible.add(field.getName());
            }
            if (Modifier.isStatic(field.getModifiers())) {
                check.isTrue("static " + field.getName() + " is final", Modifier.isFinal(field.getModifiers()));
            }
        }
        check.isTrue("visible fields " + visible,
                visible.equals(new TreeSet<>(Set.of("NONE", "UNKNOWN", "OUTSIDE", "NOT", "FULL"))));
    }

    private static void methods(Check check) {
        Set<String> wanted = new TreeSet<>(Arrays.asList(METHODS));
        Set<String> visible = new TreeSet<>();
        Set<String> names = new TreeSet<>();
        for (Method method : RemoteCells.class.getDeclaredMethods()) {
            if (Modifier.isPrivate(method.getModifiers()) || method.isSynthetic()) {
                continue;
            }
            visible.add(method.getName() + " " + method.getParameterCount());
            names.add(method.getName());
            check.isTrue(method.getName() + " answers an int", method.getReturnType() == int.class);
            check.isTrue(method.getName() + " is public", Modifier.isPublic(method.getModifiers()));
        }
        check.isTrue("visible methods " + visible, visible.equals(wanted));
        for (Class<?> inside : RemoteCells.class.getDeclaredClasses()) {
            check.isTrue(inside.getName() + " is static", Modifier.isStatic(inside.getModifiers()));
            for (Method method : inside.getDeclaredMethods()) {
                check.isTrue(inside.getName() + "." + method.getName(), !names.contains(method.getName()));
            }
        }
        check.isTrue("the class is public and final",
                Modifier.isPublic(RemoteCells.class.getModifiers()) && Modifier.isFinal(RemoteCells.class.getModifiers()));
        check.is("constructors", RemoteCells.class.getConstructors().length, 1);
    }

    /** Rules 2, 5 and 11: how many classes, fields and parameters there may be, and which static fields. */
    private static void limits(Check check) {
        List<Class<?>> classes = new ArrayList<>(List.of(RemoteCells.class.getDeclaredClasses()));
        classes.add(RemoteCells.class);
        check.isTrue(classes.size() + " classes", classes.size() <= 12);
        for (Class<?> each : classes) {
            int fields = 0;
            for (Field field : each.getDeclaredFields()) {
                if (Modifier.isStatic(field.getModifiers())) {
                    check.isTrue("static " + field.getName() + " is a constant",
                            Modifier.isFinal(field.getModifiers()) && STATIC_TYPES.contains(field.getType()));
                } else {
                    fields++;
                }
            }
            check.isTrue(each.getName() + " has " + fields + " fields", fields <= 20);
            for (Method method : each.getDeclaredMethods()) {
                check.isTrue(method.getName() + " is no lambda", !method.isSynthetic());
                check.isTrue("parameters of " + method.getName(), method.getParameterCount() <= 7);
            }
            for (Constructor<?> constructor : each.getDeclaredConstructors()) {
                check.isTrue("parameters of " + constructor.getName(), constructor.getParameterCount() <= 7);
            }
        }
    }

    /** Rule 11: a method ends with a brace that stands as far to the right as its first line. */
    private static void lengths(Check check, String whole) {
        List<String> lines = whole.lines().toList();
        int methods = 0;
        for (int i = 0; i < lines.size(); i++) {
            Matcher head = METHOD_HEAD.matcher(lines.get(i));
            if (head.matches()) {
                methods++;
                int end = i + 1;
                while (end < lines.size() && !lines.get(end).equals(head.group(1) + "}")) {
                    end++;
                }
                check.isTrue("line " + (i + 1) + ": a method of " + (end - i + 1) + " lines", end - i + 1 <= 60);
            }
        }
        check.isTrue("methods were found", methods >= METHODS.length);
    }

    private static void words(Check check, String whole) {
        String code = whole.replaceAll("(?s)/\\*.*?\\*/", "").replaceAll("//[^\n]*", "");
        for (String word : new String[] {
            "throw", "throws", "try", "catch", "finally", "synchronized", "assert", "import", "package", "volatile"}) {
            check.isTrue("no " + word, !code.matches("(?s).*\\b" + word + "\\b.*"));
        }
        for (String sign : new String[] {"->", "::", "System.", "@"}) {
            check.isTrue("no " + sign, !code.contains(sign));
        }
    }
}
