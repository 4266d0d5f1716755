import java.io.IOException;
import java.lang.reflect.Constructor;
import java.lang.reflect.Field;
import java.lang.reflect.Method;
import java.lang.reflect.Modifier;
import java.nio.file.Files;
import java.nio.file.Path;
import java.util.ArrayList;
import java.util.HashSet;
import java.util.List;
import java.util.Set;
import java.util.TreeSet;
import java.util.regex.Matcher;
import java.util.regex.Pattern;

/** The face of the class as the document has it, and the rules of LANGUAGE.md that can be told from outside. */
final class FaceTest {
    private static final String[] FACE = {
        "int size(int)", "boolean add(int,int)", "int insert(int,int,int)", "boolean put(int,int,int)",
        "int set(int,int,int)", "int get(int,int)", "int ask(int,int)", "boolean has(int,int)",
        "boolean drop(int,int)", "int takeAt(int,int)", "int cut(int,int,int)", "int poll(int,boolean)",
        "int clear(int)", "int addAll(int,int)", "int sweep(int,int,int)", "boolean begin(int,int,char)",
        "boolean beginAt(int,int,int)", "boolean beginSpan(int,int,int)", "int step(int)", "int stepChange(int,int)",
        "int back(int)", "int take(int)", "int lay(int,int)", "int change(int,int)", "int place(int)",
        "boolean isAtEnd(int)", "int answered(int)", "int end(int)", "char kindOf(int)", "int thingAt(int,int)",
        "int valueAt(int,int)", "int sum(int)", "float endShare()", "double meanSize()", "long checksum()",
        "boolean isTrue()"};

    private FaceTest() {
    }

    public static void main(String[] args) {
        Check.runAll(FaceTest.class, "face");
    }

    static void faceHasTheCallsOfTheDocumentAndNoOthers() {
        Set<String> found = new TreeSet<>();
        for (Method m : Walkwatch.class.getDeclaredMethods()) {
            if (Modifier.isPrivate(m.getModifiers())) {
                continue;
            }
            Check.same(m.getModifiers(), Modifier.PUBLIC);
            List<String> types = new ArrayList<>();
            for (Class<?> type : m.getParameterTypes()) {
                types.add(type.getName());
            }
            found.add(m.getReturnType().getName() + " " + m.getName() + "(" + String.join(",", types) + ")");
        }
        Check.same(found, new TreeSet<>(List.of(FACE)));
    }

    static void faceHasOneConstructorAndNoOpenFields() {
        Check.same(Modifier.toString(Walkwatch.class.getModifiers()), "public final");
        Constructor<?>[] constructors = Walkwatch.class.getDeclaredConstructors();
        Check.same(constructors.length, 1);
        Check.same(constructors[0].getModifiers(), Modifier.PUBLIC);
        Check.same(constructors[0].getParameterCount(), 0);
        for (Field f : Walkwatch.class.getDeclaredFields()) {
            Check.same(Modifier.isPrivate(f.getModifiers()), true);
        }
    }

    static void faceNamesAreBorneByNoInnerMethod() {
        Set<String> face = new HashSet<>();
        for (String call : FACE) {
            face.add(call.substring(call.indexOf(' ') + 1, call.indexOf('(')));
        }
        List<Class<?>> inside = new ArrayList<>(List.of(Walkwatch.class.getDeclaredClasses()));
        for (Class<?> c : inside) {
            Check.same(Modifier.isStatic(c.getModifiers()) && !Modifier.isPublic(c.getModifiers()), true);
            for (Method m : c.getDeclaredMethods()) {
                Check.same(face.contains(m.getName()), false);
            }
        }
        for (Method m : Walkwatch.class.getDeclaredMethods()) {
            Check.same(Modifier.isPrivate(m.getModifiers()) && face.contains(m.getName()), false);
        }
    }

    static void faceIsOfTheLanguageOfTheProject() throws IOException {
        String source = Files.readString(Path.of("src/main/java/Walkwatch.java"));
        for (String outside : List.of("package ", "->", "::", "try ", "catch", "finally", "synchronized", "assert ",
                "instanceof", "switch", "System.", "Exact(", "@")) {
            Check.same(source.contains(outside), false);
        }
        Set<String> library = new TreeSet<>();
        Matcher names = Pattern.compile("\\bjava\\.[a-zA-Z.]+").matcher(source);
        while (names.find()) {
            library.add(names.group());
        }
        Check.same(library,
                new TreeSet<>(List.of("java.util.NoSuchElementException", "java.util.ConcurrentModificationException")));
        Matcher thrown = Pattern.compile("throw new ([A-Za-z.]+)\\(\\);").matcher(source);
        while (thrown.find()) {
            Check.same(List.of("IllegalStateException", "IllegalArgumentException", "IndexOutOfBoundsException",
                    "ArithmeticException", "UnsupportedOperationException", "NoSuchElementException",
                    "java.util.ConcurrentModificationException").contains(thrown.group(1)), true);
        }
    }
}
