import java.io.IOException;
import java.lang.reflect.Field;
import java.lang.reflect.Method;
import java.lang.reflect.Modifier;
import java.nio.file.Files;
import java.nio.file.Path;
import java.util.ArrayList;
import java.util.List;
import java.util.TreeSet;
import java.util.regex.Matcher;
import java.util.regex.Pattern;

/** The face is the document's, and the source keeps to those rules of LANGUAGE.md that a test can see. */
public final class FaceTest {
    private static final String[] NOT_WANTED = {"->", "::", " try ", "catch", "finally", "synchronized", "assert ",
        "Exact(", "System.", "Thread", "Random", "Float", "NaN", "hashCode", "equals", "toString", "MAX_VALUE", "MIN_VALUE"};
    private static final String[] EXCEPTIONS = {"IllegalStateException", "IllegalArgumentException",
        "IndexOutOfBoundsException"};
    private static final Pattern CALL = Pattern.compile("(\\w+|\\))\\.(\\w+)(?=\\()");

    public static void main(String[] args) throws IOException {
        List<String> source = Files.readAllLines(Path.of("src/main/java/BadgeZones.java"));
        List<String> document = Files.readAllLines(Path.of("../shared/DOC.md"));
        List<String> face = faceOf(document);
        Check.is("the document is about", document.get(0), "# " + BadgeZones.class.getName());
        Check.is("signatures in the document", face.size(), 26);
        promisedInOrder(document, face);
        for (String signature : face) {
            Check.is("the source has " + signature, source.contains(signature.replace(";", " {")), true);
        }
        membersOutside(face.size());
        classesInside();
        words(source);
        library(source);
        sizes(source);
        Check.done("FaceTest");
    }

    private static List<String> faceOf(List<String> document) {
        List<String> face = new ArrayList<>();
        boolean isFace = false;
        for (String line : document) {
            if (line.startsWith("```")) {
                isFace = line.equals("```java");
            } else if (isFace && line.endsWith(";")) {
                face.add(line);
            }
        }
        return face;
    }

    /** A promise has its signature between signs of code, without the face's public and its semicolon. */
    private static void promisedInOrder(List<String> document, List<String> face) {
        List<String> promised = new ArrayList<>();
        for (String line : document) {
            if (line.matches("`[^`]+`")) {
                promised.add("    public " + line.replace("`", "") + ";");
            }
        }
        Check.is("the signatures of the promises", promised, face);
    }

    private static void membersOutside(int signatures) {
        TreeSet<String> publicNames = new TreeSet<>();
        int publicMembers = BadgeZones.class.getConstructors().length;
        for (Method method : BadgeZones.class.getDeclaredMethods()) {
            if (Modifier.isPublic(method.getModifiers())) {
                publicMembers++;
                publicNames.add(method.getName());
            }
        }
        Check.is("public members", publicMembers, signatures);
        Check.is("constructors", BadgeZones.class.getDeclaredConstructors().length, 1);
        Check.is("the class is final", Modifier.isFinal(BadgeZones.class.getModifiers()), true);
        for (Method method : BadgeZones.class.getDeclaredMethods()) {
            if (!Modifier.isPublic(method.getModifiers())) {
                Check.is(method + " is private", Modifier.isPrivate(method.getModifiers()), true);
                Check.is(method + " has the name of a public one", publicNames.contains(method.getName()), false);
            }
        }
        for (Field field : BadgeZones.class.getDeclaredFields()) {
            Check.is(field + " is private", Modifier.isPrivate(field.getModifiers()), true);
            Check.is(field + " is final if static", staticButNotFinal(field), false);
        }
    }

    private static boolean staticButNotFinal(Field field) {
        return Modifier.isStatic(field.getModifiers()) && !Modifier.isFinal(field.getModifiers());
    }

    private static void classesInside() {
        Class<?>[] inside = BadgeZones.class.getDeclaredClasses();
        Check.is("some twelve classes at most", inside.length <= 11, true);
        for (Class<?> one : inside) {
            Check.is(one + " is private", Modifier.isPrivate(one.getModifiers()), true);
            Check.is(one + " is static", Modifier.isStatic(one.getModifiers()), true);
            for (Field field : one.getDeclaredFields()) {
                Check.is(field + " is final if static", staticButNotFinal(field), false);
            }
            for (Method method : one.getDeclaredMethods()) {
                Check.is(method + " is no public one", Modifier.isPublic(method.getModifiers()), false);
            }
        }
    }

    private static void words(List<String> source) {
        for (String line : source) {
            for (String word : NOT_WANTED) {
                Check.is(word + " in: " + line, line.contains(word), false);
            }
            Check.is("a sign beyond 127 in: " + line, line.chars().anyMatch(c -> c > 127), false);
            if (line.startsWith("import")) {
                Check.is("an import", line, "import java.util.ArrayList;");
            }
            if (line.contains("throw new")) {
                Check.is("throws by the rule: " + line, throwsByTheRule(line), true);
            }
        }
    }

    /** Each call with a dot is one of the list's, of the two classes of static functions, or of a class inside. */
    private static void library(List<String> source) {
        TreeSet<String> known = new TreeSet<>(List.of("add", "get", "size", "Math.max", "Integer.bitCount"));
        for (Class<?> inside : BadgeZones.class.getDeclaredClasses()) {
            for (Method method : inside.getDeclaredMethods()) {
                known.add(method.getName());
            }
        }
        for (String line : source) {
            Matcher call = CALL.matcher(line);
            while (call.find()) {
                boolean isStatic = Character.isUpperCase(call.group(1).charAt(0));
                Check.is("a call in: " + line, known.contains(isStatic ? call.group() : call.group(2)), true);
            }
        }
    }

    /** Rule 11: short methods of few parameters, classes of few fields. */
    private static void sizes(List<String> source) {
        List<Class<?>> classes = new ArrayList<>(List.of(BadgeZones.class.getDeclaredClasses()));
        classes.add(BadgeZones.class);
        for (Class<?> one : classes) {
            int fields = 0;
            for (Field field : one.getDeclaredFields()) {
                fields += Modifier.isStatic(field.getModifiers()) ? 0 : 1;
            }
            Check.is("fields of " + one + ", at most twenty", fields <= 20, true);
            for (Method method : one.getDeclaredMethods()) {
                Check.is("parameters of " + method + ", at most seven", method.getParameterCount() <= 7, true);
            }
        }
        int begin = 0;
        for (int i = 0; i < source.size(); i++) {
            // A method begins and ends four signs in, one of a class inside eight.
            if (source.get(i).matches("( {4}| {8})[^ }/*].*\\{")) {
                begin = i;
            } else if (source.get(i).matches(" {4}( {4})?\\}")) {
                Check.is("lines up to line " + (i + 1) + ", at most sixty", i - begin < 60, true);
            }
        }
    }

    private static boolean throwsByTheRule(String line) {
        for (String exception : EXCEPTIONS) {
            if (line.trim().matches("throw new " + exception + "\\((\"[^\"]*\")?\\);")) {
                return true;
            }
        }
        return false;
    }
}
