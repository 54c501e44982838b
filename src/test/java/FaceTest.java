import java.lang.reflect.Constructor;
import java.lang.reflect.Field;
import java.lang.reflect.Method;
import java.lang.reflect.Modifier;
import java.nio.file.Files;
import java.nio.file.Path;
import java.util.ArrayList;
import java.util.List;
import java.util.TreeSet;
import java.util.regex.Matcher;
import java.util.regex.Pattern;

/** The face is that of the document, and the source keeps to what can be seen of LANGUAGE.md from outside. */
public final class FaceTest {
    private static final Path DOCUMENT = Path.of("../shared/DOC.md");
    private static final Path SOURCE = Path.of("src/main/java/Diophantdesk.java");
    private static final int MOST_FIELDS = 20;
    private static final int MOST_CLASSES = 12;
    private static final int MOST_LINES = 60;
    private static final int MOST_PARAMETERS = 7;

    private static int wrong;

    private static void must(boolean isSo, String what) {
        if (!isSo) {
            wrong++;
            System.out.println(what);
        }
    }

    /** The lines of the face in the document, without names of parameters. */
    private static TreeSet<String> faceOfDocument() throws Exception {
        TreeSet<String> face = new TreeSet<>();
        String text = Files.readString(DOCUMENT);
        String block = text.substring(text.indexOf("```java"), text.indexOf("```\n", text.indexOf("```java") + 7));
        for (String line : block.split("\n")) {
            Matcher m = Pattern.compile("    public (?:(\\w+) )?(\\w+)\\((.*?)\\)(?: throws (.*))?;").matcher(line);
            if (!m.matches()) {
                continue;
            }
            List<String> types = new ArrayList<>();
            for (String parameter : m.group(3).isEmpty() ? new String[0] : m.group(3).split(", ")) {
                types.add(parameter.split(" ")[0]);
            }
            face.add(m.group(1) + " " + m.group(2) + types + " throws " + (m.group(4) == null ? "" : m.group(4)));
        }
        return face;
    }

    private static String shown(String result, String name, Class<?>[] parameters, Class<?>[] thrown) {
        List<String> types = new ArrayList<>();
        for (Class<?> type : parameters) {
            types.add(type.getSimpleName());
        }
        List<String> exceptions = new ArrayList<>();
        for (Class<?> type : thrown) {
            exceptions.add(type.getSimpleName());
        }
        return result + " " + name + types + " throws " + String.join(", ", exceptions);
    }

    private static void checkFace() throws Exception {
        Class<?> c = Diophantdesk.class;
        must(Modifier.isPublic(c.getModifiers()) && Modifier.isFinal(c.getModifiers()), "the class is public and final");
        TreeSet<String> face = new TreeSet<>();
        TreeSet<String> names = new TreeSet<>();
        for (Constructor<?> made : c.getDeclaredConstructors()) {
            face.add(shown("null", c.getSimpleName(), made.getParameterTypes(), made.getExceptionTypes()));
        }
        for (Method method : c.getDeclaredMethods()) {
            boolean isPublic = Modifier.isPublic(method.getModifiers());
            must(isPublic || Modifier.isPrivate(method.getModifiers()), method + " is neither public nor private");
            if (isPublic) {
                face.add(shown(method.getReturnType().getSimpleName(), method.getName(), method.getParameterTypes(),
                        method.getExceptionTypes()));
                names.add(method.getName());
            }
        }
        must(face.equals(faceOfDocument()), "the face is not that of the document: " + face);
        for (Method method : c.getDeclaredMethods()) {
            must(Modifier.isPublic(method.getModifiers()) || !names.contains(method.getName()),
                    method + " bears the name of a public one");
        }
        for (Class<?> inside : c.getDeclaredClasses()) {
            must(!Modifier.isPublic(inside.getModifiers()) && !Modifier.isProtected(inside.getModifiers()),
                    inside + " is seen from outside");
            for (Method method : inside.getDeclaredMethods()) {
                must(!Modifier.isPrivate(method.getModifiers()) || !names.contains(method.getName()),
                        method + " bears the name of a public one");
            }
        }
    }

    private static void checkSizes() {
        List<Class<?>> classes = new ArrayList<>(List.of(Diophantdesk.class.getDeclaredClasses()));
        classes.add(Diophantdesk.class);
        must(classes.size() <= MOST_CLASSES, classes.size() + " classes");
        for (Class<?> c : classes) {
            int fields = 0;
            for (Field field : c.getDeclaredFields()) {
                boolean isStatic = Modifier.isStatic(field.getModifiers());
                fields += isStatic ? 0 : 1;
                must(!isStatic || Modifier.isFinal(field.getModifiers()), field + " is static and not final");
                must(c != Diophantdesk.class || Modifier.isPrivate(field.getModifiers()), field + " is not private");
            }
            must(fields <= MOST_FIELDS, c + " has " + fields + " fields");
            for (Method method : c.getDeclaredMethods()) {
                must(method.getParameterCount() <= MOST_PARAMETERS, method + " has too many parameters");
            }
        }
    }

    private static void checkSource() throws Exception {
        String source = Files.readString(SOURCE);
        String code = source.replaceAll("(?s)/\\*.*?\\*/", " ").replaceAll("//[^\n]*", " ").replaceAll("\"[^\"\n]*\"", "\"\"");
        String other = code.replaceAll("(case [^:;{}]*|default )->", "").replaceAll("@Override|System\\.arraycopy", "");
        for (String no : new String[] {"->", "::", "finally", "synchronized", "\\bassert\\b", "@", "\\+ \"", "\" \\+", "\"\" ==",
            "Exact\\b", "\\bSystem\\b", "\\bThread\\b", "\\bObject\\b", "while \\(true\\)", "for \\(;;\\)", "static \\{", "\\bpackage\\b",
            "\\bprotected\\b", "catch \\((Array\\w*|NullPointer|ClassCast|NegativeArraySize)?(Exception|Error|Throwable)\\b"}) {
            must(!Pattern.compile(no).matcher(other).find(), "the source holds " + no);
        }
        Matcher imports = Pattern.compile("(?m)^import (.*);").matcher(code);
        while (imports.find()) {
            must(imports.group(1).matches("java\\.util\\.(Arrays|ArrayList|List|Iterator|NoSuchElementException)"),
                    "import of " + imports.group(1));
        }
        Matcher thrown = Pattern.compile("\\bthrow ([^;]*);").matcher(code);
        while (thrown.find()) {
            must(thrown.group(1).matches("new (IllegalState|IllegalArgument|IndexOutOfBounds|Arithmetic|UnsupportedOperation"
                    + "|NoSuchElement|Runtime)Exception\\((\"\")?\\)"), "throws " + thrown.group(1));
        }
        for (int i = 0; i < source.length(); i++) {
            must(source.charAt(i) < 128, "a sign above 127");
        }
        checkLengths(source);
    }

    /** A method begins with a line that ends with "{" and is no class, and ends with a "}" below its first sign. */
    private static void checkLengths(String source) {
        String[] lines = source.split("\n");
        for (int i = 0; i < lines.length; i++) {
            Matcher m = Pattern.compile("(    (?:    )?)(?! )(?!.*\\bclass\\b).*\\) ?.*\\{").matcher(lines[i]);
            if (!m.matches()) {
                continue;
            }
            int end = i;
            while (end < lines.length && !lines[end].equals(m.group(1) + "}")) {
                end++;
            }
            must(end - i + 1 <= MOST_LINES, "a method of " + (end - i + 1) + " lines at line " + (i + 1));
        }
    }

    public static void main(String[] args) throws Exception {
        checkFace();
        checkSizes();
        checkSource();
        System.out.println("the face and the source: " + wrong + " wrong");
        if (wrong > 0) {
            System.exit(1);
        }
    }
}
