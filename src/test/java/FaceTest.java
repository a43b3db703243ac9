import java.lang.reflect.Constructor;
import java.lang.reflect.Field;
import java.lang.reflect.Method;
import java.lang.reflect.Modifier;
import java.nio.file.Files;
import java.nio.file.Path;
import java.util.ArrayList;
import java.util.List;
import java.util.Set;
import java.util.TreeSet;
import java.util.regex.Matcher;
import java.util.regex.Pattern;

/** The face of the class is that of the document, and nothing else of it is to be seen (LANGUAGE.md, rule 1). */
final class FaceTest {
    public static void main(String[] args) throws Exception {
        String doc = Files.readString(Path.of("../shared/DOC.md"));
        String face = doc.substring(doc.indexOf("```java"), doc.indexOf("## Terms"));
        Set<String> want = new TreeSet<>();
        Matcher m = Pattern.compile("public (int|boolean) (\\w+)\\(([^)]*)\\)( throws [\\w, ]+)?;").matcher(face);
        while (m.find()) {
            List<String> types = new ArrayList<>();
            for (String argument : m.group(3).split(",")) {
                if (!argument.isBlank()) {
                    types.add(argument.trim().split(" ")[0]);
                }
            }
            String thrown = m.group(4) == null ? "" : m.group(4).replace(" throws ", "");
            want.add(m.group(1) + " " + m.group(2) + types + " " + thrown);
        }
        Set<String> got = new TreeSet<>();
        Set<String> names = new TreeSet<>();
        for (Method method : VersionWorks.class.getDeclaredMethods()) {
            if (!Modifier.isPrivate(method.getModifiers()) && !method.isSynthetic()) {
                names.add(method.getName());
                got.add(told(method));
                Due.yes(method + " is public, of the object", Modifier.isPublic(method.getModifiers())
                        && !Modifier.isStatic(method.getModifiers()));
            }
        }
        Due.yes("the document's face was read", want.size() > 100);
        Due.same("the methods", want, got);
        Due.yes("public final class", Modifier.isPublic(VersionWorks.class.getModifiers())
                && Modifier.isFinal(VersionWorks.class.getModifiers()));
        Constructor<?>[] made = VersionWorks.class.getDeclaredConstructors();
        Due.same("one constructor", 1, made.length);
        Due.yes("public", Modifier.isPublic(made[0].getModifiers()) && made[0].getParameterCount() == 0);
        for (Field field : VersionWorks.class.getDeclaredFields()) {
            Due.yes(field + " is private", field.getName().equals("NONE") || Modifier.isPrivate(field.getModifiers()));
        }
        hidden(VersionWorks.class, names);
        for (Class<?> inside : VersionWorks.class.getDeclaredClasses()) {
            Due.yes(inside + " is static", Modifier.isStatic(inside.getModifiers()));
            Due.yes(inside + " is not public", !Modifier.isPublic(inside.getModifiers())
                    && !Modifier.isProtected(inside.getModifiers()));
            hidden(inside, names);
        }
        Due.end("FaceTest");
    }

    private static String told(Method method) {
        List<String> types = new ArrayList<>();
        for (Class<?> type : method.getParameterTypes()) {
            types.add(type.getSimpleName());
        }
        List<String> thrown = new ArrayList<>();
        for (Class<?> type : method.getExceptionTypes()) {
            thrown.add(type.getSimpleName());
        }
        return method.getReturnType() + " " + method.getName() + types + " " + String.join(", ", thrown);
    }

    private static void hidden(Class<?> in, Set<String> names) {
        for (Method method : in.getDeclaredMethods()) {
            if (Modifier.isPrivate(method.getModifiers())) {
                Due.yes(method + " bears the name of a public one", !names.contains(method.getName()));
            }
        }
    }
}
