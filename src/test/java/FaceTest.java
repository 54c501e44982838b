import java.lang.reflect.Constructor;
import java.lang.reflect.Method;
import java.lang.reflect.Modifier;
import java.nio.file.Files;
import java.nio.file.Path;
import java.util.ArrayList;
import java.util.List;
import java.util.TreeSet;
import java.util.regex.Matcher;
import java.util.regex.Pattern;

/** The face is that of the document, and nothing else is seen from outside. */
public final class FaceTest {
    private static final Path DOCUMENT = Path.of("../shared/DOC.md");

    private static int wrong;

    private static void must(boolean isSo, String what) {
        if (!isSo) {
            wrong++;
            System.out.println(what);
        }
    }

    /** The lines of the face in the document, without names of parameters. */
    private static TreeSet<String> faceOfDocument() throws Exception {
        TreeSet<String> face = new TreeSet<>();
        String text = Files.readString(DOCUMENT);
        String block = text.substring(text.indexOf("```java"), text.indexOf("```\n", text.indexOf("```java") + 7));
        for (String line : block.split("\n")) {
            Matcher m = Pattern.compile("    public (?:(\\w+) )?(\\w+)\\((.*?)\\)(?: throws (.*))?;").matcher(line);
            if (!m.matches()) {
                continue;
            }
            List<String> types = new ArrayList<>();
            for (String parameter : m.group(3).isEmpty() ? new String[0] : m.group(3).split(", ")) {
                types.add(parameter.split(" ")[0]);
            }
            face.add(m.group(1) + " " + m.group(2) + types + " throws " + (m.group(4) == null ? "" : m.group(4)));
        }
        return face;
    }

    private static String shown(String result, String name, Class<?>[] parameters, Class<?>[] thrown) {
        List<String> types = new ArrayList<>();
        for (Class<?> type : parameters) {
            types.add(type.getSimpleName());
        }
        List<String> exceptions = new ArrayList<>();
        for (Class<?> type : thrown) {
            exceptions.add(type.getSimpleName());
        }
        return result + " " + name + types + " throws " + String.join(", ", exceptions);
    }

    private static void checkFace() throws Exception {
        Class<?> c = Diophantdesk.class;
        must(Modifier.isPublic(c.getModifiers()) && Modifier.isFinal(c.getModifiers()), "the class is public and final");
        TreeSet<String> face = new TreeSet<>();
        TreeSet<String> names = new TreeSet<>();
        for (Constructor<?> made : c.getDeclaredConstructors()) {
            face.add(shown("null", c.getSimpleName(), made.getParameterTypes(), made.getExceptionTypes()));
        }
        for (Method method : c.getDeclaredMethods()) {
            boolean isPublic = Modifier.isPublic(method.getModifiers());
            must(isPublic || Modifier.isPrivate(method.getModifiers()), method + " is neither public nor private");
            if (isPublic) {
                face.add(shown(method.getReturnType().getSimpleName(), method.getName(), method.getParameterTypes(),
                        method.getExceptionTypes()));
                names.add(method.getName());
            }
        }
        must(face.equals(faceOfDocument()), "the face is not that of the document: " + face);
        for (Method method : c.getDeclaredMethods()) {
            must(Modifier.isPublic(method.getModifiers()) || !names.contains(method.getName()),
                    method + " bears the name of a public one");
        }
        for (Class<?> inside : c.getDeclaredClasses()) {
            must(!Modifier.isPublic(inside.getModifiers()) && !Modifier.isProtected(inside.getModifiers()),
                    inside + " is seen from outside");
            for (Method method : inside.getDeclaredMethods()) {
                must(!Modifier.isPrivate(method.getModifiers()) || !names.contains(method.getName()),
                        method + " bears the name of a public one");
            }
        }
    }

    public static void main(String[] args) throws Exception {
        checkFace();
        System.out.println("the face: " + wrong + " wrong");
        if (wrong > 0) {
            System.exit(1);
        }
    }
}
