import java.lang.reflect.Constructor;
import java.lang.reflect.Field;
import java.lang.reflect.Method;
import java.lang.reflect.Modifier;
import java.nio.file.Files;
import java.nio.file.Path;
import java.util.ArrayList;
import java.util.Arrays;
import java.util.List;
import java.util.Set;
import java.util.TreeSet;
import java.util.regex.Matcher;
import java.util.regex.Pattern;

/** The class has the document's face and no more, and keeps to those rules of the language that a look can tell. */
public final class FaceTests {
    private static int wrong = 0;

    public static void main(String[] args) throws Exception {
        faceIsTheDocuments();
        nothingElseIsSeen();
        noPrivateNameIsPublicToo();
        sourceKeepsToTheLanguage();
        System.out.println(wrong == 0 ? "FaceTests: all is as due" : "FaceTests: " + wrong + " wrong");
        if (wrong != 0) {
            System.exit(1);
        }
    }

    private static void check(boolean right, String what) {
        if (!right) {
            wrong++;
            System.out.println("FaceTests: " + what);
        }
    }

    private static void faceIsTheDocuments() throws Exception {
        String doc = Files.readString(Path.of("../shared/DOC.md"));
        String block = doc.substring(doc.indexOf("```java"), doc.indexOf("```", doc.indexOf("```java") + 3));
        Set<String> due = new TreeSet<>();
        for (String line : block.split("\n")) {
            Matcher m = Pattern.compile("    public (\\w+) (\\w+)\\((.*?)\\)( throws (.*))?;").matcher(line);
            if (m.matches()) {
                due.add(signature(m.group(1), m.group(2), types(m.group(3)), m.group(5)));
            }
        }
        Set<String> got = new TreeSet<>();
        for (Method m : Sashwords.class.getDeclaredMethods()) {
            if (Modifier.isPublic(m.getModifiers())) {
                got.add(signature(m.getReturnType().getSimpleName(), m.getName(), names(m.getParameterTypes()),
                        String.join(", ", names(m.getExceptionTypes()))));
            }
        }
        check(due.size() == 49, "49 methods are read from the document, not " + due.size());
        check(due.equals(got), "the face is " + got + ", due is " + due);
        int modifiers = Sashwords.class.getModifiers();
        check(Modifier.isPublic(modifiers) && Modifier.isFinal(modifiers), "the class is public and final");
        Constructor<?>[] constructors = Sashwords.class.getDeclaredConstructors();
        check(constructors.length == 1 && Modifier.isPublic(constructors[0].getModifiers())
                && constructors[0].getParameterCount() == 0, "there is one public constructor without parameters");
    }

    private static String signature(String type, String name, List<String> parameters, String exceptions) {
        List<String> thrown = new ArrayList<>();
        if (exceptions != null && !exceptions.isEmpty()) {
            thrown.addAll(Arrays.asList(exceptions.split(", ")));
        }
        thrown.sort(null);
        return type + " " + name + parameters + " throws " + thrown;
    }

    private static List<String> types(String parameters) {
        List<String> types = new ArrayList<>();
        for (String parameter : parameters.split(", ")) {
            if (!parameter.isEmpty()) {
                types.add(parameter.substring(0, parameter.indexOf(' ')));
            }
        }
        return types;
    }

    private static List<String> names(Class<?>[] classes) {
        List<String> names = new ArrayList<>();
        for (Class<?> c : classes) {
            names.add(c.getSimpleName());
        }
        return names;
    }

    private static void nothingElseIsSeen() {
        for (Method m : Sashwords.class.getDeclaredMethods()) {
            int modifiers = m.getModifiers();
            check(Modifier.isPublic(modifiers) || Modifier.isPrivate(modifiers), "seen from outside: " + m.getName());
        }
        for (Field f : Sashwords.class.getDeclaredFields()) {
            check(Modifier.isPrivate(f.getModifiers()), "seen from outside: " + f.getName());
            check(!Modifier.isStatic(f.getModifiers()) || Modifier.isFinal(f.getModifiers()),
                    "static and not final: " + f.getName());
        }
        check(Sashwords.class.getDeclaredClasses().length <= 11, "too many classes");
        for (Class<?> c : Sashwords.class.getDeclaredClasses()) {
            check(!Modifier.isPublic(c.getModifiers()) && !Modifier.isProtected(c.getModifiers()),
                    "seen from outside: " + c.getName());
        }
    }

    private static void noPrivateNameIsPublicToo() {
        Set<String> face = new TreeSet<>();
        for (Method m : Sashwords.class.getDeclaredMethods()) {
            if (Modifier.isPublic(m.getModifiers())) {
                face.add(m.getName());
            }
        }
        for (Method m : Sashwords.class.getDeclaredMethods()) {
            check(Modifier.isPublic(m.getModifiers()) || !face.contains(m.getName()),
                    "a private method has a public one's name: " + m.getName());
        }
        for (Class<?> c : Sashwords.class.getDeclaredClasses()) {
            for (Method m : c.getDeclaredMethods()) {
                check(!face.contains(m.getName()), "an inner method has a public one's name: " + m.getName());
            }
        }
    }

    private static void sourceKeepsToTheLanguage() throws Exception {
        String source = Files.readString(Path.of("src/main/java/Sashwords.java"));
        String[] banned = {"\\bpackage\\b", "\\bimport (?!java\\.util\\.(ArrayList|List|Arrays|Iterator|NoSuch\\w+);)",
            "\\btry *\\(", "\\bcatch *\\([^)]*(Array|NullPointer|ClassCast|Runtime|Throwable)",
            "\\bcatch *\\( *Exception", "\\bfinally\\b", "\\bgetMessage\\b", "->", "::",
            "\\bsynchronized\\b", "\\bassert\\b",
            "\\bSystem\\.(?!arraycopy\\b)", "\\bThread\\b", "\\bMath\\.\\w+Exact\\b", "@(?!Override\\b)\\w+",
            "\\bhashCode\\b", "\\btoString\\(\\) *\\{", "\"\\s*\\+", "\\+\\s*\"", "[^\\x00-\\x7f]"};
        for (String ban : banned) {
            check(!Pattern.compile(ban).matcher(source).find(), "the source holds " + ban);
        }
        Matcher thrown = Pattern.compile("\\bthrow new (\\w+)\\((\"[^\"]*\")?\\);").matcher(source);
        int written = 0;
        Set<String> allowed = Set.of("IllegalStateException", "IllegalArgumentException", "IndexOutOfBoundsException",
                "ArithmeticException", "UnsupportedOperationException", "NoSuchElementException", "RuntimeException");
        while (thrown.find()) {
            written++;
            check(allowed.contains(thrown.group(1)), "thrown is " + thrown.group(1));
        }
        Matcher every = Pattern.compile("\\bthrow\\b").matcher(source);
        while (every.find()) {
            written--;
        }
        check(written == 0, "each throw is a new exception with a written text");
    }
}
