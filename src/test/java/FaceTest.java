import java.io.IOException;
import java.lang.reflect.Constructor;
import java.lang.reflect.Field;
import java.lang.reflect.Method;
import java.lang.reflect.Modifier;
import java.nio.file.Files;
import java.nio.file.Path;
import java.util.Arrays;
import java.util.List;
import java.util.Set;
import java.util.TreeSet;
import java.util.regex.Pattern;

/** The public face, and the rules of LANGUAGE.md that can be seen from outside or by words. */
final class FaceTest {
    private static final Check check = new Check();

    private static final List<String> FACE = List.of(
            "int grade(int,int,int)", "int rank(int,int,int)", "int empty(int,int)", "int drop(int,int)",
            "int at(int,int,int)", "int count(int,int)", "int measure(int,int,int,int)", "long top()",
            "long bottom()", "long gain(int,int,int,boolean)", "int mean(int,int,int)", "int odds(int,int,int,int)",
            "int wins(int,int,int,int,int)", "int likeness(int,int,int)", "int overlap(int,int,int,int)",
            "int pool(int,int,int)", "int laid(int,int,int,int,int)", "int clicks(int,int,int,int)",
            "int prefer(int,int,int,int,int)");

    private static final List<String> OUTSIDE_THE_LANGUAGE = List.of(
            "\\bthrows?\\b", "\\btry\\b", "\\bcatch\\b", "\\bsynchronized\\b", "\\bassert\\b", "\\bstatic\\s*\\{",
            "->", "::", "Exact\\b", "\\bpackage\\b", "\\bvar\\b", "\\bequals\\b", "\\bhashCode\\b", "\\btoString\\b",
            "\\bSystem\\.(?!arraycopy)", "\\bThread\\b", "\\bdouble\\b", "\\bfloat\\b", "\\bwhile\\s*\\(\\s*true",
            "for\\s*\\(\\s*;\\s*;", "\\bMath\\.random", "[^\\x00-\\x7f]");

    public static void main(String[] args) throws IOException {
        members();
        classesInside();
        words(Files.readString(Path.of("src/main/java/RankBench.java")));
        check.end();
    }

    private static String signature(Method method) {
        StringBuilder text = new StringBuilder(method.getReturnType().getSimpleName());
        text.append(' ').append(method.getName()).append('(');
        for (Class<?> type : method.getParameterTypes()) {
            text.append(text.charAt(text.length() - 1) == '(' ? "" : ",").append(type.getSimpleName());
        }
        return text.append(')').toString();
    }

    private static void members() {
        check.dueTrue("public and final", Modifier.isPublic(RankBench.class.getModifiers())
                && Modifier.isFinal(RankBench.class.getModifiers()));
        Constructor<?>[] constructors = RankBench.class.getDeclaredConstructors();
        check.due("constructors", constructors.length, 1);
        check.dueTrue("the constructor", Modifier.isPublic(constructors[0].getModifiers())
                && constructors[0].getParameterCount() == 0);
        Set<String> open = new TreeSet<>();
        Set<String> names = new TreeSet<>();
        for (Method method : RankBench.class.getDeclaredMethods()) {
            if (!Modifier.isPrivate(method.getModifiers())) {
                open.add(signature(method));
                names.add(method.getName());
                check.dueTrue(signature(method) + " is public, not static", method.getModifiers() == Modifier.PUBLIC);
            }
        }
        check.dueTrue("the methods of the face, and no others: " + open, open.equals(new TreeSet<>(FACE)));
        for (Method method : RankBench.class.getDeclaredMethods()) {
            check.dueTrue(method.getName() + " is private by a public name",
                    !Modifier.isPrivate(method.getModifiers()) || !names.contains(method.getName()));
        }
        for (Field field : RankBench.class.getDeclaredFields()) {
            check.dueTrue(field.getName() + " is private", Modifier.isPrivate(field.getModifiers()));
            fieldRules(field);
        }
    }

    private static void fieldRules(Field field) {
        check.dueTrue(field + ": static, then final",
                !Modifier.isStatic(field.getModifiers()) || Modifier.isFinal(field.getModifiers()));
    }

    private static void classesInside() {
        Class<?>[] inside = RankBench.class.getDeclaredClasses();
        check.dueTrue("at most twelve classes", inside.length <= 11);
        for (Class<?> type : inside) {
            check.dueTrue(type + " is static", Modifier.isStatic(type.getModifiers()));
            check.dueTrue(type + " is not public", !Modifier.isPublic(type.getModifiers()));
            check.dueTrue(type + " holds no class", type.getDeclaredClasses().length == 0);
            Arrays.stream(type.getDeclaredFields()).forEach(FaceTest::fieldRules);
            for (Method method : type.getDeclaredMethods()) {
                check.dueTrue(method + ": at most seven parameters", method.getParameterCount() <= 7);
                check.dueTrue(method + ": no name of the face",
                        FACE.stream().noneMatch(face -> face.contains(" " + method.getName() + "(")));
            }
        }
    }

    private static void words(String source) {
        String code = source.replaceAll("(?s)/\\*.*?\\*/", "").replaceAll("//.*", "");
        for (String word : OUTSIDE_THE_LANGUAGE) {
            check.dueTrue("the source has " + word, !Pattern.compile(word).matcher(code).find());
        }
        for (String line : code.split("\n")) {
            check.dueTrue("import: " + line, !line.startsWith("import") || line.equals("import java.util.Arrays;"));
        }
    }
}
