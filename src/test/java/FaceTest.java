import java.io.IOException;
import java.lang.reflect.Constructor;
import java.lang.reflect.Field;
import java.lang.reflect.Method;
import java.lang.reflect.Modifier;
import java.nio.file.Files;
import java.nio.file.Path;
import java.util.Set;
import java.util.TreeSet;
import java.util.regex.Matcher;
import java.util.regex.Pattern;
import java.util.stream.Collectors;
import java.util.stream.Stream;

/** The class has the document's face and nothing more that can be seen. */
public final class FaceTest {
    private static final Path DOCUMENT = Path.of("../shared/DOC.md");

    private static Set<String> documentFace() throws IOException {
        Matcher block = Pattern.compile("(?s)```java\n(.*?)```").matcher(Files.readString(DOCUMENT));
        Check.due("the document shows a face", block.find(), true);
        String form = "public (\\w+) (\\w+)\\(([^)]*)\\)(?: throws ([^;]*))?;";
        Matcher line = Pattern.compile(form).matcher(block.group(1));
        Set<String> face = new TreeSet<>();
        while (line.find()) {
            String types = line.group(3).replaceAll(" \\w+(,|$)", "$1");
            String thrown = line.group(4) == null ? "" : line.group(4);
            face.add(line.group(1) + " " + line.group(2) + "(" + types + ") throws " + thrown);
        }
        return face;
    }

    private static String told(Method method) {
        return method.getReturnType().getName() + " " + method.getName()
            + "(" + namesOf(method.getParameterTypes()) + ") throws " + namesOf(method.getExceptionTypes());
    }

    private static String namesOf(Class<?>[] types) {
        return Stream.of(types).map(Class::getSimpleName).collect(Collectors.joining(", "));
    }

    private static void methods() throws IOException {
        Set<String> seen = new TreeSet<>();
        Set<String> publicNames = new TreeSet<>();
        for (Method method : Prereqs.class.getDeclaredMethods()) {
            if (!Modifier.isPrivate(method.getModifiers())) {
                seen.add(told(method));
                publicNames.add(method.getName());
                Check.due(method + " is public", Modifier.isPublic(method.getModifiers()), true);
                Check.due(method + " is of an object", Modifier.isStatic(method.getModifiers()), false);
            }
        }
        Set<String> face = documentFace();
        Check.due("how many methods the document's face has", face.size(), 53);
        for (String line : face) {
            Check.due("the class has " + line, seen.contains(line), true);
        }
        for (String line : seen) {
            Check.due("the document's face has " + line, face.contains(line), true);
        }
        for (Method method : Prereqs.class.getDeclaredMethods()) {
            boolean clashes = Modifier.isPrivate(method.getModifiers()) && publicNames.contains(method.getName());
            Check.due(method + " bears a name of the face", clashes, false);
        }
    }

    public static void main(String[] arguments) throws IOException {
        Check.due("public and final", Prereqs.class.getModifiers(), Modifier.PUBLIC | Modifier.FINAL);
        Check.due("no package", Prereqs.class.getPackageName(), "");
        Check.due("the super class", Prereqs.class.getSuperclass(), Object.class);
        Check.due("interfaces", Prereqs.class.getInterfaces().length, 0);
        Constructor<?>[] constructors = Prereqs.class.getDeclaredConstructors();
        Check.due("constructors", constructors.length, 1);
        Check.due("a public constructor", Modifier.isPublic(constructors[0].getModifiers()), true);
        Check.due("without parameters", constructors[0].getParameterCount(), 0);
        for (Field field : Prereqs.class.getDeclaredFields()) {
            Check.due(field + " is private", Modifier.isPrivate(field.getModifiers()), true);
            boolean isShared = Modifier.isStatic(field.getModifiers()) && !Modifier.isFinal(field.getModifiers());
            Check.due(field + " is shared state", isShared, false);
        }
        methods();
        Check.end();
    }
}
