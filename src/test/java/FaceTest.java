import java.io.IOException;
import java.lang.reflect.Field;
import java.lang.reflect.Method;
import java.lang.reflect.Modifier;
import java.nio.file.Files;
import java.nio.file.Path;
import java.util.Arrays;
import java.util.Set;
import java.util.TreeSet;

/** The public face is the document's, no more and no less; and the words that LANGUAGE.md rules out are not used. */
public final class FaceTest {
    private static final String[] METHODS = {
        "write 1", "erase 0", "fault 0", "tell 0", "cell 2", "put 3", "key 5", "lock 2", "door 3", "join 1",
        "tear 1", "delay 2", "aim 3", "send 2", "store 2", "read 2", "add 3", "swap 4", "receive 2", "step 1",
        "tick 1", "take 1", "taken 1", "end 2", "open 3", "packet 1", "count 1"
    };

    public static void main(String[] args) throws IOException {
        Check check = new Check();
        constants(check);
        methods(check);
        if (args.length > 0) {
            source(check, Files.readString(Path.of(args[0])));
        }
        check.finish();
    }

    private static void constants(Check check) {
        check.is("NONE", RemoteCells.NONE, -1);
        check.is("UNKNOWN", RemoteCells.UNKNOWN, -1001);
        check.is("OUTSIDE", RemoteCells.OUTSIDE, -1002);
        check.is("NOT", RemoteCells.NOT, -1003);
        check.is("FULL", RemoteCells.FULL, -1004);
        Set<String> visible = new TreeSet<>();
        for (Field field : RemoteCells.class.getDeclaredFields()) {
            if (!Modifier.isPrivate(field.getModifiers())) {
                visible.add(field.getName());
            }
            if (Modifier.isStatic(field.getModifiers())) {
                check.isTrue("static " + field.getName() + " is final", Modifier.isFinal(field.getModifiers()));
            }
        }
        check.isTrue("visible fields " + visible,
                visible.equals(new TreeSet<>(Set.of("NONE", "UNKNOWN", "OUTSIDE", "NOT", "FULL"))));
    }

    private static void methods(Check check) {
        Set<String> wanted = new TreeSet<>(Arrays.asList(METHODS));
        Set<String> visible = new TreeSet<>();
        Set<String> names = new TreeSet<>();
        for (Method method : RemoteCells.class.getDeclaredMethods()) {
            if (Modifier.isPrivate(method.getModifiers()) || method.isSynthetic()) {
                continue;
            }
            visible.add(method.getName() + " " + method.getParameterCount());
            names.add(method.getName());
            check.isTrue(method.getName() + " answers an int", method.getReturnType() == int.class);
            check.isTrue(method.getName() + " is public", Modifier.isPublic(method.getModifiers()));
        }
        check.isTrue("visible methods " + visible, visible.equals(wanted));
        for (Class<?> inside : RemoteCells.class.getDeclaredClasses()) {
            check.isTrue(inside.getName() + " is static", Modifier.isStatic(inside.getModifiers()));
            for (Method method : inside.getDeclaredMethods()) {
                check.isTrue(inside.getName() + "." + method.getName(), !names.contains(method.getName()));
            }
        }
        check.isTrue("the class is public and final",
                Modifier.isPublic(RemoteCells.class.getModifiers()) && Modifier.isFinal(RemoteCells.class.getModifiers()));
        check.is("constructors", RemoteCells.class.getConstructors().length, 1);
    }

    private static void source(Check check, String whole) {
        String code = whole.replaceAll("(?s)/\\*.*?\\*/", "").replaceAll("//[^\n]*", "");
        for (String word : new String[] {
            "throw", "throws", "try", "catch", "finally", "synchronized", "assert", "import", "package", "volatile"}) {
            check.isTrue("no " + word, !code.matches("(?s).*\\b" + word + "\\b.*"));
        }
        for (String sign : new String[] {"->", "::", "System.", "@"}) {
            check.isTrue("no " + sign, !code.contains(sign));
        }
    }
}
