import java.lang.reflect.Constructor;
import java.lang.reflect.Field;
import java.lang.reflect.Member;
import java.lang.reflect.Method;
import java.lang.reflect.Modifier;
import java.nio.file.Files;
import java.nio.file.Path;
import java.util.ArrayList;
import java.util.Arrays;
import java.util.List;
import java.util.TreeSet;
import java.util.regex.Matcher;
import java.util.regex.Pattern;
import java.util.stream.Collectors;

/** All promises: the face is that of the document, and nothing else is seen from outside. */
final class FaceTest {
    private static final Path DOC = Path.of("..", "shared", "DOC.md");
    private static final Pattern DECLARED =
            Pattern.compile("(?m)^    public (\\w+ \\w+\\([^)]*\\)[^;]*);");

    public static void main(String[] args) throws Exception {
        Due.is("public and final", Modifier.PUBLIC | Modifier.FINAL,
                () -> OssuaryVault.class.getModifiers());
        Due.is("no class above it", "class java.lang.Object",
                () -> OssuaryVault.class.getSuperclass().toString());
        Due.is("no interface", 0, () -> OssuaryVault.class.getInterfaces().length);
        Due.is("P1 one constructor", "[public OssuaryVault()]",
                () -> Arrays.toString(OssuaryVault.class.getDeclaredConstructors()));
        TreeSet<String> face = new TreeSet<>();
        Matcher m = DECLARED.matcher(Files.readString(DOC));
        while (m.find()) {
            face.add(m.group(1).replaceAll("(\\(|, )(\\w+) \\w+", "$1$2"));
        }
        Due.is("how many methods the document has", 45, () -> face.size());
        Due.is("the public methods", String.join("\n", face), () -> String.join("\n", publics()));
        Due.is("other members that can be seen", "[]", () -> seen().toString());
        Due.is("private methods with a public name", "[]", () -> shadows().toString());
        Due.is("twelve classes at most", true,
                () -> OssuaryVault.class.getDeclaredClasses().length < 12);
        Due.end("FaceTest");
    }

    private static TreeSet<String> publics() {
        TreeSet<String> all = new TreeSet<>();
        for (Method m : OssuaryVault.class.getDeclaredMethods()) {
            if (Modifier.isPublic(m.getModifiers())) {
                all.add(m.getReturnType() + " " + m.getName() + "(" + names(m.getParameterTypes())
                        + ")" + (m.getExceptionTypes().length == 0 ? ""
                        : " throws " + names(m.getExceptionTypes())));
            }
        }
        return all;
    }

    private static String names(Class<?>[] kinds) {
        return Arrays.stream(kinds).map(Class::getSimpleName).collect(Collectors.joining(", "));
    }

    private static List<String> seen() {
        List<Member> members = new ArrayList<>();
        members.addAll(List.of(OssuaryVault.class.getDeclaredFields()));
        for (Method m : OssuaryVault.class.getDeclaredMethods()) {
            if (!Modifier.isPublic(m.getModifiers())) {
                members.add(m);
            }
        }
        List<String> all = new ArrayList<>();
        for (Member m : members) {
            if (!m.isSynthetic() && !Modifier.isPrivate(m.getModifiers())) {
                all.add(m.getName());
            }
        }
        for (Class<?> inner : OssuaryVault.class.getDeclaredClasses()) {
            if (!Modifier.isStatic(inner.getModifiers())
                    || Modifier.isPublic(inner.getModifiers())) {
                all.add(inner.getSimpleName());
            }
            for (Field f : inner.getDeclaredFields()) {
                if (Modifier.isStatic(f.getModifiers()) && !Modifier.isFinal(f.getModifiers())) {
                    all.add(f.getName());
                }
            }
            for (Constructor<?> c : inner.getDeclaredConstructors()) {
                if (Modifier.isPublic(c.getModifiers())) {
                    all.add(c.getName());
                }
            }
        }
        return all;
    }

    private static List<String> shadows() {
        TreeSet<String> face = new TreeSet<>();
        for (Method m : OssuaryVault.class.getDeclaredMethods()) {
            if (Modifier.isPublic(m.getModifiers())) {
                face.add(m.getName());
            }
        }
        List<String> all = new ArrayList<>();
        List<Class<?>> kinds = new ArrayList<>(List.of(OssuaryVault.class.getDeclaredClasses()));
        kinds.add(OssuaryVault.class);
        for (Class<?> kind : kinds) {
            for (Method m : kind.getDeclaredMethods()) {
                if (!Modifier.isPublic(m.getModifiers()) && face.contains(m.getName())) {
                    all.add(kind.getSimpleName() + "." + m.getName());
                }
            }
        }
        return all;
    }
}
