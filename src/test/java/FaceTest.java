import java.lang.reflect.Constructor;
import java.lang.reflect.Field;
import java.lang.reflect.Method;
import java.lang.reflect.Modifier;
import java.nio.file.Files;
import java.nio.file.Path;
import java.util.ArrayList;
import java.util.Arrays;
import java.util.HashSet;
import java.util.List;
import java.util.Set;
import java.util.TreeSet;
import java.util.regex.Matcher;
import java.util.regex.Pattern;
import java.util.stream.Collectors;

/** The face is that of the document, and nothing else of the class can be seen (rules 1, 2 and 5 of LANGUAGE.md). */
final class FaceTest {
    private static final Pattern FACE =
            Pattern.compile("    public (\\S+) (\\w+)\\((.*?)\\)(?: throws (.*))?;");

    public static void main(String[] args) throws Exception {
        Set<String> due = documented();
        Set<String> got = new TreeSet<>();
        Set<String> names = new HashSet<>();
        List<Method> hidden = new ArrayList<>();
        for (Method method : StrikeStrip.class.getDeclaredMethods()) {
            if (Modifier.isPrivate(method.getModifiers()) || method.isSynthetic()) {
                hidden.add(method);
            } else {
                names.add(method.getName());
                got.add(told(method));
            }
        }
        Check.is("the documented methods", due.size(), 50);
        Check.isText("the methods", got.toString(), due.toString());
        for (Method method : hidden) {
            Check.isFalse("a private method named " + method.getName(), names.contains(method.getName()));
        }
        for (Field field : StrikeStrip.class.getDeclaredFields()) {
            Check.isTrue("the field " + field.getName() + " is private", Modifier.isPrivate(field.getModifiers()));
            Check.isTrue("the field " + field.getName() + " is final, if static",
                    !Modifier.isStatic(field.getModifiers()) || Modifier.isFinal(field.getModifiers()));
        }
        Constructor<?>[] constructors = StrikeStrip.class.getDeclaredConstructors();
        Check.is("the constructors", constructors.length, 1);
        Check.isTrue("the constructor is public", Modifier.isPublic(constructors[0].getModifiers()));
        Check.isTrue("the class is final", Modifier.isFinal(StrikeStrip.class.getModifiers()));
        for (Class<?> inside : StrikeStrip.class.getDeclaredClasses()) {
            Check.isTrue(inside + " is static", Modifier.isStatic(inside.getModifiers()));
            Check.isFalse(inside + " is public", Modifier.isPublic(inside.getModifiers()));
        }
        Check.end();
    }

    private static Set<String> documented() throws Exception {
        Set<String> due = new TreeSet<>();
        for (String line : Files.readAllLines(Path.of("../shared/DOC.md"))) {
            Matcher matcher = FACE.matcher(line);
            if (matcher.matches()) {
                String types = Arrays.stream(matcher.group(3).split(", ")).map(s -> s.split(" ")[0])
                        .collect(Collectors.joining(", "));
                String thrown = matcher.group(4) == null ? "" : matcher.group(4);
                due.add(matcher.group(1) + " " + matcher.group(2) + "(" + types + ") " + thrown);
            }
        }
        return due;
    }

    private static String told(Method method) {
        String types = Arrays.stream(method.getParameterTypes()).map(Class::getSimpleName)
                .collect(Collectors.joining(", "));
        String thrown = Arrays.stream(method.getExceptionTypes()).map(Class::getSimpleName)
                .collect(Collectors.joining(", "));
        return method.getReturnType().getSimpleName() + " " + method.getName() + "(" + types + ") " + thrown;
    }
}
