import java.io.IOException;
import java.lang.reflect.Constructor;
import java.lang.reflect.Field;
import java.lang.reflect.Method;
import java.lang.reflect.Modifier;
import java.nio.charset.StandardCharsets;
import java.nio.file.Files;
import java.nio.file.Path;
import java.util.Arrays;
import java.util.Set;
import java.util.TreeSet;
import java.util.stream.Collectors;

/** The face of the class is the document's, and what ../shared/LANGUAGE.md can be looked up for is kept. */
public final class FaceTest {
    private static final String A = "IllegalArgumentException";
    private static final String X = "IndexOutOfBoundsException";
    private static final String S = "IllegalStateException";
    private static final String U = "UnsupportedOperationException";
    private static final String N = "NoSuchElementException";
    private static final String Z = "ArithmeticException";

    private FaceTest() {
    }

    public static void main(String[] args) throws IOException {
        face();
        noOtherMembers(Exlibristrail.class);
        for (Class<?> inside : Exlibristrail.class.getDeclaredClasses()) {
            inside(inside);
        }
        Check.is("at most some twelve classes", Exlibristrail.class.getDeclaredClasses().length <= 12, true);
        source(Path.of(args.length > 0 ? args[0] : "src/main/java/Exlibristrail.java"));
        Check.close();
    }

    private static void face() {
        Set<String> due = new TreeSet<>(Arrays.asList(
                "int edition(int, int) " + A + " " + S,
                "int copy(int, int, int) " + X + " " + A + " " + S,
                "int owner(int, int, int) " + A + " " + S,
                "int heir(int, int) " + X + " " + A,
                "char system(int, char) " + X + " " + A,
                "int rebind(int, int) " + X + " " + A,
                "int likeness(int, int) " + X,
                "int mark(int, int, char, int, int) " + X + " " + A + " " + S,
                "boolean wash(int) " + X,
                "boolean withdraw(int, boolean) " + X,
                "int weight(int) " + X,
                "char test(int) " + X,
                "int lost(int) " + X,
                "int sale(int, int) " + X + " " + A + " " + S,
                "int lot(int, int, int, int, int, int, int) " + X + " " + A + " " + S,
                "int score(int, int) " + X,
                "int match(int) " + X + " " + N,
                "int confirm(int, int) " + X + " " + U,
                "int reopen(int) " + X + " " + U,
                "int dearest(int) " + X + " " + N,
                "int theft(int, int, int) " + X + " " + A + " " + U,
                "int limit(int, int) " + A,
                "boolean faith(int, boolean) " + X,
                "char claim(int) " + X + " " + U,
                "int claimant(int) " + X + " " + U + " " + N,
                "int holder(int, int) " + X + " " + A + " " + N,
                "int cost(int) " + X,
                "int margin(int) " + X,
                "int gaps(int) " + X,
                "int stays(int) " + X,
                "int stay(int, int) " + X + " " + N,
                "int from(int, int) " + X + " " + N,
                "boolean rests(int, int) " + X,
                "int shelf(int, int) " + X + " " + A,
                "int shelved(int, int, int) " + X + " " + A + " " + N,
                "int written(int, int, int) " + X + " " + A + " " + N,
                "char sign(int, int, int, int) " + X + " " + A + " " + N,
                "long checksum()",
                "float knownShare() " + Z,
                "double meanPrice() " + Z,
                "boolean isSound()"));
        Set<String> got = new TreeSet<>();
        for (Method method : Exlibristrail.class.getDeclaredMethods()) {
            if (!Modifier.isPrivate(method.getModifiers())) {
                got.add(textOf(method));
                Check.is(method.getName() + " is public alone", method.getModifiers(), Modifier.PUBLIC);
            }
        }
        Check.is("the face", String.join("\n", got), String.join("\n", due));
        Check.is("the class", Exlibristrail.class.getModifiers(), Modifier.PUBLIC | Modifier.FINAL);
        Constructor<?>[] constructors = Exlibristrail.class.getDeclaredConstructors();
        Check.is("one constructor", constructors.length, 1);
        Check.is("its modifiers", constructors[0].getModifiers(), Modifier.PUBLIC);
        Check.is("its parameters", constructors[0].getParameterCount(), 0);
    }

    private static String textOf(Method method) {
        String parameters = Arrays.stream(method.getParameterTypes()).map(Class::getSimpleName)
                .collect(Collectors.joining(", "));
        String thrown = Arrays.stream(method.getExceptionTypes()).map(c -> " " + c.getSimpleName())
                .collect(Collectors.joining());
        return method.getReturnType().getSimpleName() + " " + method.getName() + "(" + parameters + ")" + thrown;
    }

    private static Set<String> faceNames() {
        return Arrays.stream(Exlibristrail.class.getDeclaredMethods())
                .filter(m -> Modifier.isPublic(m.getModifiers())).map(Method::getName).collect(Collectors.toSet());
    }

    private static void noOtherMembers(Class<?> face) {
        Set<String> names = faceNames();
        for (Field field : face.getDeclaredFields()) {
            Check.is(field.getName() + " is private", Modifier.isPrivate(field.getModifiers()), true);
        }
        for (Method method : face.getDeclaredMethods()) {
            boolean isPrivate = Modifier.isPrivate(method.getModifiers());
            Check.is(method.getName() + " bears no public name", isPrivate && names.contains(method.getName()), false);
        }
        fieldsOf(face);
    }

    private static void inside(Class<?> inside) {
        Set<String> names = faceNames();
        int modifiers = inside.getModifiers();
        Check.is(inside.getName() + " is static", Modifier.isStatic(modifiers), true);
        Check.is(inside.getName() + " is not public", Modifier.isPublic(modifiers) || Modifier.isProtected(modifiers),
                false);
        for (Method method : inside.getDeclaredMethods()) {
            Check.is(inside.getName() + "." + method.getName() + " bears no public name",
                    names.contains(method.getName()), false);
            Check.is(method.getName() + " takes at most seven", method.getParameterCount() <= 7, true);
        }
        fieldsOf(inside);
    }

    private static void fieldsOf(Class<?> one) {
        int count = 0;
        for (Field field : one.getDeclaredFields()) {
            boolean isStatic = Modifier.isStatic(field.getModifiers());
            if (isStatic) {
                Check.is(field.getName() + " is final", Modifier.isFinal(field.getModifiers()), true);
            } else {
                count++;
            }
        }
        Check.is(one.getName() + " has at most some twenty fields", count <= 20, true);
    }

    private static void source(Path file) throws IOException {
        String text = Files.readString(file, StandardCharsets.ISO_8859_1);
        String[] banned = {"catch", "try {", "finally", "->", "::", "synchronized", "assert ", "instanceof", "System.",
            "Exact(", "Object", "package ", "static {", "Random", "Thread", "while (true)", "for (;;)"};
        for (String one : banned) {
            Check.is("the source has no '" + one + "'", text.contains(one), false);
        }
        Check.is("the source's signs are 1 to 127", text.chars().allMatch(sign -> sign >= 1 && sign <= 127), true);
        int start = 0;
        String[] lines = text.split("\n");
        for (int line = 0; line < lines.length; line++) {
            if (lines[line].matches("    (    )?[A-Za-z].*[({,]$") && !lines[line].contains("class ")) {
                start = line;
            }
            if (lines[line].matches("    (    )?}")) {
                Check.is("line " + start + " begins a short method", line - start <= 60 || start == 0, true);
            }
        }
    }
}
