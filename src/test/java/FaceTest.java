import java.io.IOException;
import java.lang.reflect.Constructor;
import java.lang.reflect.Field;
import java.lang.reflect.Member;
import java.lang.reflect.Method;
import java.lang.reflect.Modifier;
import java.nio.file.Files;
import java.nio.file.Path;
import java.util.ArrayList;
import java.util.Arrays;
import java.util.List;
import java.util.regex.Matcher;
import java.util.regex.Pattern;

/** The public face, no member more and none less, and some rules of LANGUAGE.md that a text shows. */
public final class FaceTest {
    private static final Check check = new Check("FaceTest");
    private static final String[] FACE = {
        "words 2", "constant 1", "cost 2", "target 2", "aim 0", "add 3", "drop 0", "result 1",
        "instruction 2", "count 1", "value 2", "differ 2", "clean 0", "search 3", "told 1", "take 0"};
    private static final String[] FORBIDDEN = {
        "throw", "throws", "try", "catch", "synchronized", "assert", "import", "package", "protected", "->", "::"};

    public static void main(String[] args) throws IOException {
        face();
        state();
        text();
        check.end();
    }

    private static void face() {
        check.holds("the class is public and final", Modifier.isPublic(ShortestCode.class.getModifiers())
            && Modifier.isFinal(ShortestCode.class.getModifiers()));
        Constructor<?>[] constructors = ShortestCode.class.getDeclaredConstructors();
        check.holds("one public constructor without parameters", constructors.length == 1
            && Modifier.isPublic(constructors[0].getModifiers()) && constructors[0].getParameterCount() == 0);
        List<String> missing = new ArrayList<>(Arrays.asList(FACE));
        List<String> names = new ArrayList<>();
        for (Method method : ShortestCode.class.getDeclaredMethods()) {
            if (Modifier.isPublic(method.getModifiers())) {
                String told = method.getName() + " " + method.getParameterCount();
                check.holds(told + " is in the face, once", missing.remove(told));
                check.holds(told + " takes and answers int", takesAndAnswersInt(method));
                names.add(method.getName());
            } else {
                check.holds(method.getName() + " is private", isPrivate(method));
            }
        }
        check.holds("nothing is missing: " + missing, missing.isEmpty());
        for (Method method : ShortestCode.class.getDeclaredMethods()) {
            check.holds(method.getName() + " bears no public name", !isPrivate(method) || !names.contains(method.getName()));
        }
    }

    private static boolean takesAndAnswersInt(Method method) {
        boolean so = method.getReturnType() == int.class && !Modifier.isStatic(method.getModifiers());
        for (Class<?> type : method.getParameterTypes()) {
            so &= type == int.class;
        }
        return so;
    }

    private static boolean isInFace(String name) {
        for (String told : FACE) {
            if (told.startsWith(name + " ")) {
                return true;
            }
        }
        return false;
    }

    private static boolean isPrivate(Member member) {
        return Modifier.isPrivate(member.getModifiers());
    }

    private static void state() {
        List<Class<?>> classes = new ArrayList<>(Arrays.asList(ShortestCode.class.getDeclaredClasses()));
        for (Class<?> inside : classes) {
            check.holds(inside + " is static", Modifier.isStatic(inside.getModifiers()));
            check.holds(inside + " is not public", !Modifier.isPublic(inside.getModifiers()));
        }
        classes.add(ShortestCode.class);
        for (Class<?> one : classes) {
            for (Field field : one.getDeclaredFields()) {
                boolean isStatic = Modifier.isStatic(field.getModifiers());
                check.holds(field + " is final if static", !isStatic || Modifier.isFinal(field.getModifiers()));
                check.holds(field + " is private", isPrivate(field));
            }
            for (Method method : one.getDeclaredMethods()) {
                check.holds(method + " has at most seven parameters", method.getParameterCount() <= 7);
                check.holds(method + " bears no public name", one == ShortestCode.class || !isInFace(method.getName()));
            }
        }
    }

    private static void text() throws IOException {
        String source = Files.readString(Path.of("src/main/java/ShortestCode.java"));
        String code = source.replaceAll("(?s)/\\*.*?\\*/", "").replaceAll("//[^\n]*", "");
        for (String word : FORBIDDEN) {
            String pattern = Character.isLetter(word.charAt(0)) ? "\\b" + word + "\\b" : Pattern.quote(word);
            Matcher matcher = Pattern.compile(pattern).matcher(code);
            check.holds("the code does without " + word, !matcher.find());
        }
    }
}
