import java.io.IOException;
import java.lang.reflect.Constructor;
import java.lang.reflect.Field;
import java.lang.reflect.Method;
import java.lang.reflect.Modifier;
import java.nio.file.Files;
import java.nio.file.Path;
import java.util.ArrayList;
import java.util.HashSet;
import java.util.List;
import java.util.Set;
import java.util.TreeSet;
import java.util.regex.Matcher;
import java.util.regex.Pattern;

/** The face of the class as the document has it, and the rules of LANGUAGE.md that can be told from outside. */
final class FaceTest {
    private static final String[] FACE = {
        "int size(int) IndexOutOfBoundsException",
        "boolean add(int,int) IndexOutOfBoundsException,IllegalArgumentException,IllegalStateException",
        "int insert(int,int,int) IndexOutOfBoundsException,UnsupportedOperationException,"
                + "NoSuchElementException,IllegalArgumentException,IllegalStateException",
        "boolean put(int,int,int) IndexOutOfBoundsException,UnsupportedOperationException,"
                + "IllegalArgumentException,IllegalStateException",
        "int set(int,int,int) IndexOutOfBoundsException,UnsupportedOperationException,NoSuchElementException,"
                + "IllegalArgumentException",
        "int get(int,int) IndexOutOfBoundsException,UnsupportedOperationException,NoSuchElementException",
        "int ask(int,int) IndexOutOfBoundsException,UnsupportedOperationException,NoSuchElementException",
        "boolean has(int,int) IndexOutOfBoundsException",
        "boolean drop(int,int) IndexOutOfBoundsException",
        "int takeAt(int,int) IndexOutOfBoundsException,UnsupportedOperationException,NoSuchElementException",
        "int cut(int,int,int) IndexOutOfBoundsException,UnsupportedOperationException,"
                + "IllegalArgumentException,NoSuchElementException",
        "int poll(int,boolean) IndexOutOfBoundsException,UnsupportedOperationException,NoSuchElementException",
        "int clear(int) IndexOutOfBoundsException",
        "int addAll(int,int) IndexOutOfBoundsException,UnsupportedOperationException,IllegalStateException",
        "int sweep(int,int,int) IndexOutOfBoundsException,IllegalArgumentException",
        "boolean begin(int,int,char) IndexOutOfBoundsException,IllegalArgumentException,"
                + "UnsupportedOperationException",
        "boolean beginAt(int,int,int) IndexOutOfBoundsException,UnsupportedOperationException,NoSuchElementException",
        "boolean beginSpan(int,int,int) IndexOutOfBoundsException,IllegalArgumentException",
        "int step(int) IndexOutOfBoundsException,NoSuchElementException,IllegalStateException,"
                + "ConcurrentModificationException",
        "int stepChange(int,int) IndexOutOfBoundsException,NoSuchElementException,"
                + "UnsupportedOperationException,IllegalArgumentException,ConcurrentModificationException",
        "int back(int) IndexOutOfBoundsException,NoSuchElementException,UnsupportedOperationException,"
                + "ConcurrentModificationException",
        "int take(int) IndexOutOfBoundsException,NoSuchElementException,UnsupportedOperationException,"
                + "IllegalStateException,ConcurrentModificationException",
        "int lay(int,int) IndexOutOfBoundsException,NoSuchElementException,UnsupportedOperationException,"
                + "IllegalArgumentException,IllegalStateException,ConcurrentModificationException",
        "int change(int,int) IndexOutOfBoundsException,NoSuchElementException,UnsupportedOperationException,"
                + "IllegalArgumentException,IllegalStateException,ConcurrentModificationException",
        "int place(int) IndexOutOfBoundsException,NoSuchElementException,UnsupportedOperationException",
        "boolean isAtEnd(int) IndexOutOfBoundsException,NoSuchElementException",
        "int answered(int) IndexOutOfBoundsException,NoSuchElementException",
        "int end(int) IndexOutOfBoundsException,NoSuchElementException",
        "char kindOf(int) IndexOutOfBoundsException",
        "int thingAt(int,int) IndexOutOfBoundsException,UnsupportedOperationException,NoSuchElementException",
        "int valueAt(int,int) IndexOutOfBoundsException,UnsupportedOperationException,NoSuchElementException",
        "int sum(int) IndexOutOfBoundsException",
        "float endShare() ArithmeticException",
        "double meanSize()",
        "long checksum()",
        "boolean isTrue()"};

    private FaceTest() {
    }

    public static void main(String[] args) {
        Check.runAll(FaceTest.class, "face");
    }

    static void faceHasTheCallsOfTheDocumentAndNoOthers() {
        Set<String> found = new TreeSet<>();
        for (Method m : Walkwatch.class.getDeclaredMethods()) {
            if (Modifier.isPrivate(m.getModifiers())) {
                continue;
            }
            Check.same(m.getModifiers(), Modifier.PUBLIC);
            List<String> types = new ArrayList<>();
            for (Class<?> type : m.getParameterTypes()) {
                types.add(type.getName());
            }
            List<String> thrown = new ArrayList<>();
            for (Class<?> type : m.getExceptionTypes()) {
                thrown.add(type.getSimpleName());
            }
            String call = m.getReturnType().getName() + " " + m.getName() + "(" + String.join(",", types) + ")";
            found.add((call + " " + String.join(",", thrown)).trim());
        }
        Check.same(found, new TreeSet<>(List.of(FACE)));
    }

    static void faceHasOneConstructorAndNoOpenFields() {
        Check.same(Modifier.toString(Walkwatch.class.getModifiers()), "public final");
        Constructor<?>[] constructors = Walkwatch.class.getDeclaredConstructors();
        Check.same(constructors.length, 1);
        Check.same(constructors[0].getModifiers(), Modifier.PUBLIC);
        Check.same(constructors[0].getParameterCount(), 0);
        for (Field f : Walkwatch.class.getDeclaredFields()) {
            Check.same(Modifier.isPrivate(f.getModifiers()), true);
        }
    }

    static void faceNamesAreBorneByNoInnerMethod() {
        Set<String> face = new HashSet<>();
        for (String call : FACE) {
            face.add(call.substring(call.indexOf(' ') + 1, call.indexOf('(')));
        }
        List<Class<?>> inside = new ArrayList<>(List.of(Walkwatch.class.getDeclaredClasses()));
        for (Class<?> c : inside) {
            Check.same(Modifier.isStatic(c.getModifiers()) && !Modifier.isPublic(c.getModifiers()), true);
            for (Method m : c.getDeclaredMethods()) {
                Check.same(face.contains(m.getName()), false);
            }
        }
        for (Method m : Walkwatch.class.getDeclaredMethods()) {
            Check.same(Modifier.isPrivate(m.getModifiers()) && face.contains(m.getName()), false);
        }
    }

    static void faceKeepsToTheLibraryOfTheLanguage() throws IOException {
        List<String> library = List.of("java.util.NoSuchElementException", "java.util.ConcurrentModificationException",
                "java.util.ArrayList", "java.util.List", "java.util.Arrays", "java.util.Iterator");
        Matcher names = Pattern.compile("\\bjavax?\\.[a-zA-Z.]+").matcher(source());
        while (names.find()) {
            Check.same(library.contains(names.group()), true);
        }
    }

    static void faceLeavesOutWhatTheLanguageLeavesOut() throws IOException {
        String source = source();
        for (String outside : List.of("package ", "::", "finally", "synchronized", "assert ", "Exact(", "static {",
                "nanoTime", "currentTimeMillis", "Random", "Thread", "hashCode", "toString()", "getMessage")) {
            Check.same(source.contains(outside) ? outside : "", "");
        }
    }

    static void faceThrowsTheExceptionsOfTheDocumentAlone() throws IOException {
        Matcher thrown = Pattern.compile("throw new ([A-Za-z.]+)\\(").matcher(source());
        while (thrown.find()) {
            Check.same(List.of("IllegalStateException", "IllegalArgumentException", "IndexOutOfBoundsException",
                    "ArithmeticException", "UnsupportedOperationException", "NoSuchElementException",
                    "java.util.ConcurrentModificationException").contains(thrown.group(1)), true);
        }
    }

    static void faceCatchesNothingThatTheMachineThrows() throws IOException {
        Matcher caught = Pattern.compile("catch \\(([^)]*)\\)").matcher(source());
        while (caught.find()) {
            for (String machines : List.of("IndexOutOfBounds", "NullPointer", "Arithmetic", "ClassCast",
                    "NegativeArraySize", "ArrayStore", "RuntimeException", "Throwable", "Error", " Exception")) {
                Check.same((" " + caught.group(1)).contains(machines), false);
            }
        }
    }

    /** The program without its comments. */
    private static String source() throws IOException {
        String source = Files.readString(Path.of("src/main/java/Walkwatch.java"));
        return source.replaceAll("(?s)/\\*.*?\\*/", " ").replaceAll("//[^\n]*", " ");
    }
}
