import java.io.IOException;
import java.lang.reflect.Constructor;
import java.lang.reflect.Field;
import java.lang.reflect.Method;
import java.lang.reflect.Modifier;
import java.nio.file.Files;
import java.nio.file.Path;
import java.util.Arrays;
import java.util.Set;
import java.util.TreeSet;
import java.util.stream.Collectors;

/** The face is the document's, and the file keeps to the rules of the language that can be looked at. */
public final class FaceTest {
    private static final Checks CHECKS = new Checks();
    private static final Path FILE = Path.of("src/main/java/ImageGcds.java");
    private static final String[] FACE = {
        "int poly() throws IllegalStateException",
        "boolean term(int,long,long,int) throws IndexOutOfBoundsException,IllegalArgumentException,ArithmeticException",
        "int add(int,int) throws IndexOutOfBoundsException,IllegalStateException",
        "int times(int,int) throws IndexOutOfBoundsException,IllegalStateException,IllegalArgumentException",
        "int over(int,int) throws IndexOutOfBoundsException,IllegalStateException",
        "int gcd(int,int) throws IndexOutOfBoundsException,IllegalStateException",
        "int resultant(int,int,int) throws IndexOutOfBoundsException,IllegalStateException,IllegalArgumentException",
        "int slope(int,int) throws IndexOutOfBoundsException,IllegalStateException,IllegalArgumentException",
        "int content(int,int) throws IndexOutOfBoundsException,IllegalStateException,IllegalArgumentException",
        "int part(int,int) throws IndexOutOfBoundsException,IllegalStateException,IllegalArgumentException",
        "int image(int,int,int) throws IndexOutOfBoundsException,IllegalStateException,IllegalArgumentException",
        "boolean equal(int,int) throws IndexOutOfBoundsException",
        "int terms(int) throws IndexOutOfBoundsException",
        "int at(int,int,int) throws IndexOutOfBoundsException,IllegalArgumentException",
        "int degree(int,int) throws IndexOutOfBoundsException,IllegalArgumentException",
        "int count()",
    };

    public static void main(String[] args) throws IOException {
        face();
        names();
        classesInside();
        text();
        CHECKS.end("FaceTest");
    }

    private static String names(Class<?>[] types) {
        return Arrays.stream(types).map(Class::getSimpleName).collect(Collectors.joining(","));
    }

    private static void face() {
        Set<String> open = new TreeSet<>();
        for (Method m : ImageGcds.class.getDeclaredMethods()) {
            if (!Modifier.isPrivate(m.getModifiers())) {
                String thrown = m.getExceptionTypes().length == 0 ? "" : " throws " + names(m.getExceptionTypes());
                open.add(m.getReturnType().getSimpleName() + " " + m.getName() + "(" + names(m.getParameterTypes()) + ")" + thrown);
            }
        }
        CHECKS.same("the face", new TreeSet<>(Arrays.asList(FACE)), open);
        int modifiers = ImageGcds.class.getModifiers();
        CHECKS.same("public and final", true, Modifier.isPublic(modifiers) && Modifier.isFinal(modifiers));
        Constructor<?>[] constructors = ImageGcds.class.getDeclaredConstructors();
        CHECKS.same("constructors", 1, constructors.length);
        CHECKS.same("constructor", "int", names(constructors[0].getParameterTypes()));
        for (Field f : ImageGcds.class.getDeclaredFields()) {
            CHECKS.same("field " + f.getName() + " is private", true, Modifier.isPrivate(f.getModifiers()));
        }
    }

    private static void names() {
        Set<String> open = new TreeSet<>();
        for (Method m : ImageGcds.class.getMethods()) {
            open.add(m.getName());
        }
        for (Method m : ImageGcds.class.getDeclaredMethods()) {
            boolean hidden = Modifier.isPrivate(m.getModifiers());
            CHECKS.same("own name " + m.getName(), true, !hidden || !open.contains(m.getName()));
        }
        for (Class<?> c : ImageGcds.class.getDeclaredClasses()) {
            for (Method m : c.getDeclaredMethods()) {
                CHECKS.same("own name " + m.getName(), false, open.contains(m.getName()));
                CHECKS.same("parameters of " + m.getName(), true, m.getParameterCount() <= 7);
            }
        }
    }

    private static void classesInside() {
        Class<?>[] inside = ImageGcds.class.getDeclaredClasses();
        CHECKS.same("some twelve classes", true, inside.length <= 12);
        for (Class<?> c : inside) {
            int modifiers = c.getModifiers();
            CHECKS.same(c + " is static", true, Modifier.isStatic(modifiers));
            CHECKS.same(c + " is hidden", false, Modifier.isPublic(modifiers) || Modifier.isProtected(modifiers));
            CHECKS.same(c + " has few fields", true, c.getDeclaredFields().length <= 20);
        }
    }

    private static void text() throws IOException {
        String text = Files.readString(FILE);
        String[] never = {"catch", "try {", "finally", "->", "::", "synchronized", "assert ", "Exact(", "instanceof",
            "Object", "hashCode", "package ", "[][]", "Random", "System.out", "double", "float"};
        for (String word : never) {
            CHECKS.same("holds " + word, false, text.contains(word));
        }
        long imports = text.lines().filter(line -> line.startsWith("import ")).count();
        CHECKS.same("imports", 1L, imports);
        CHECKS.same("import", true, text.contains("import java.util.Arrays;"));
        CHECKS.same("characters", true, text.chars().allMatch(c -> c < 256));
    }
}
