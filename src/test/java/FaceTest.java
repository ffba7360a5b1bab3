import java.io.IOException;
import java.lang.reflect.Constructor;
import java.lang.reflect.Field;
import java.lang.reflect.Method;
import java.lang.reflect.Modifier;
import java.nio.file.Files;
import java.nio.file.Path;
import java.util.Arrays;
import java.util.TreeSet;

/** The public face: what the document lists, with its exceptions, and nothing else. */
final class FaceTest {
    private static final Due DUE = new Due("FaceTest");

    private static final Path SOURCE = Path.of("src", "main", "java", "SlitWidths.java");

    private static final String[] FACE = {
        "void coil(int,int,int,int,int) IllegalArgumentException",
        "int want(int,int) IllegalStateException,IllegalArgumentException",
        "void strips(int,int) IndexOutOfBoundsException,IllegalArgumentException",
        "int fill() ",
        "int best(int) IndexOutOfBoundsException",
        "int cut() IllegalStateException,UnsupportedOperationException",
        "int strip(int,int,int) IndexOutOfBoundsException",
        "int scrap(int) IndexOutOfBoundsException",
        "int moves(int,int) IndexOutOfBoundsException",
        "int order() ",
        "int ordered(int) IndexOutOfBoundsException",
        "int defect(int,int) IllegalStateException,IllegalArgumentException",
        "void sound() ",
        "int shift(int) IndexOutOfBoundsException,UnsupportedOperationException",
    };

    public static void main(String[] args) throws IOException {
        Class<?> face = SlitWidths.class;
        DUE.yes("the class is public and final",
                Modifier.isPublic(face.getModifiers()) && Modifier.isFinal(face.getModifiers()));
        TreeSet<String> told = new TreeSet<>(Arrays.asList(FACE));
        TreeSet<String> publicNames = new TreeSet<>();
        TreeSet<String> seen = new TreeSet<>();
        for (Method m : face.getDeclaredMethods()) {
            if (!Modifier.isPrivate(m.getModifiers())) {
                DUE.yes(m + " is public and no static method",
                        Modifier.isPublic(m.getModifiers()) && !Modifier.isStatic(m.getModifiers()));
                seen.add(line(m));
                publicNames.add(m.getName());
            }
        }
        DUE.yes("the methods are " + seen, seen.equals(told));
        Constructor<?>[] constructors = face.getDeclaredConstructors();
        DUE.yes("one public constructor without parameters", constructors.length == 1
                && Modifier.isPublic(constructors[0].getModifiers())
                && constructors[0].getParameterCount() == 0);
        insideIsHidden(face, publicNames);
        writtenAsInTheDocument();
        DUE.end();
    }

    /** The names of parameters too, which the compiled class does not tell. */
    private static void writtenAsInTheDocument() throws IOException {
        Document document = new Document();
        String source = Files.readString(SOURCE).replaceAll("\\s+", " ");
        int promise = 0;
        for (String line : document.face()) {
            promise++;
            DUE.yes("promise " + promise + " is about " + line,
                    document.names(promise, "`" + line + "`: "));
            DUE.yes("the source has " + line, source.contains(" public " + line + " {"));
        }
        DUE.yes(promise + " lines of the document's face",
                promise == 0 || promise == FACE.length + 1);
    }

    private static void insideIsHidden(Class<?> face, TreeSet<String> publicNames) {
        for (Field f : face.getDeclaredFields()) {
            DUE.yes(f + " is private", Modifier.isPrivate(f.getModifiers()));
        }
        for (Method m : face.getDeclaredMethods()) {
            DUE.yes(m + " bears no public name",
                    !Modifier.isPrivate(m.getModifiers()) || !publicNames.contains(m.getName()));
        }
        for (Class<?> c : face.getDeclaredClasses()) {
            DUE.yes(c + " is private and static",
                    Modifier.isPrivate(c.getModifiers()) && Modifier.isStatic(c.getModifiers()));
            for (Method m : c.getDeclaredMethods()) {
                DUE.yes(m + " bears no public name", !publicNames.contains(m.getName()));
            }
        }
    }

    private static String line(Method m) {
        return m.getReturnType().getSimpleName() + " " + m.getName() + "(" + names(m.getParameterTypes())
                + ") " + names(m.getExceptionTypes());
    }

    private static String names(Class<?>[] types) {
        StringBuilder names = new StringBuilder();
        for (Class<?> type : types) {
            names.append(names.length() == 0 ? "" : ",").append(type.getSimpleName());
        }
        return names.toString();
    }
}
