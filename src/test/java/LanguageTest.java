import java.io.IOException;
import java.lang.management.ManagementFactory;
import java.lang.reflect.Constructor;
import java.lang.reflect.Field;
import java.lang.reflect.Method;
import java.lang.reflect.Modifier;
import java.nio.file.Files;
import java.nio.file.Path;
import java.util.Arrays;
import java.util.HashSet;
import java.util.List;
import java.util.Set;
import java.util.TreeSet;

/** The public face of the document, rules of LANGUAGE.md that can be seen by machine, and the room. */
public final class LanguageTest {
    private static final Set<String> FACE = new TreeSet<>(List.of(
            "boolean root(int)", "boolean length(int,int,int)", "boolean below(int,int)", "int lay()", "int of(int)",
            "long spans(int,int)", "int order(int,int)", "int point(int,int)", "int move(int)", "long where(int)",
            "int back(int,int)", "int visits(int,int)", "int step()", "int steps(int)", "long table(int,int)",
            "int loop()", "int rounds()", "int round(int,int)", "int words(int)", "int classes()", "int ground(int)"));
    private static final List<String> FORBIDDEN = List.of(
            "import", "package", "throw", "throws", "try", "catch", "finally", "synchronized", "assert", "protected",
            "volatile", "native", "var", "Object", "Random", "Thread", "hashCode", "toString");

    public static void main(String[] args) throws IOException {
        theFace();
        theClassesInside();
        theWords();
        theRoom();
        Due.end();
    }

    private static void theFace() {
        int modifiers = SpanBench.class.getModifiers();
        Due.is("public and final", Modifier.isPublic(modifiers) && Modifier.isFinal(modifiers), true);
        Set<String> face = new TreeSet<>();
        Set<String> names = new HashSet<>();
        for (Method method : SpanBench.class.getDeclaredMethods()) {
            if (Modifier.isPublic(method.getModifiers())) {
                String parameters = Arrays.toString(method.getParameterTypes()).replaceAll("[\\[\\] ]", "");
                face.add(method.getReturnType() + " " + method.getName() + "(" + parameters + ")");
                names.add(method.getName());
            }
        }
        Due.is("the face is " + face, face.equals(FACE), true);
        for (Method method : SpanBench.class.getDeclaredMethods()) {
            boolean isOwn = Modifier.isPrivate(method.getModifiers()) && !names.contains(method.getName());
            Due.is(method + " is of the face or private", Modifier.isPublic(method.getModifiers()) || isOwn, true);
        }
        for (Field field : SpanBench.class.getDeclaredFields()) {
            boolean isNone = field.getName().equals("NONE") && Modifier.isPublic(field.getModifiers());
            Due.is(field + " is private or NONE", isNone || Modifier.isPrivate(field.getModifiers()), true);
            boolean isState = Modifier.isStatic(field.getModifiers()) && !Modifier.isFinal(field.getModifiers());
            Due.is(field + " is no static state", isState, false);
        }
        Constructor<?>[] constructors = SpanBench.class.getDeclaredConstructors();
        Due.is("constructors", constructors.length, 1);
        Due.is("parameters of it", constructors[0].getParameterCount(), 0);
    }

    private static void theClassesInside() {
        Class<?>[] inside = SpanBench.class.getDeclaredClasses();
        Due.is("at most some twelve classes", inside.length <= 11, true);
        for (Class<?> one : inside) {
            Due.is(one + " is static", Modifier.isStatic(one.getModifiers()), true);
            Due.is(one + " is not public", Modifier.isPublic(one.getModifiers()), false);
            Due.is(one + " has at most some twenty fields", one.getDeclaredFields().length <= 20, true);
            for (Method method : one.getDeclaredMethods()) {
                Due.is(method + " has at most seven parameters", method.getParameterCount() <= 7, true);
            }
        }
    }

    private static void theWords() throws IOException {
        String text = Files.readString(Path.of("src/main/java/SpanBench.java"));
        String code = text.replaceAll("(?s)/\\*.*?\\*/", "").replaceAll("//[^\\n]*", "");
        for (String word : FORBIDDEN) {
            Due.is("the word " + word, code.matches("(?s).*\\b" + word + "\\b.*"), false);
        }
        Due.is("a lambda", code.contains("->"), false);
        Due.is("a method reference", code.contains("::"), false);
        Due.is("a function that ends in Exact", code.contains("Exact"), false);
    }

    /** Rows are made in the constructor alone: the dearest calls make nothing. */
    private static void theRoom() {
        SpanBench x = Due.laidWithRoot(2, 0x012345, 16384, -11585, 3, 1, 5, -3, -1, 5, 9, 1, 2, 2);
        SpanBench whole = Due.laid(0x01234567, 201, 199, 307, 293, 250, 250, 101, 399);
        dearCalls(x, whole);
        long before = allocated();
        for (int i = 0; i < 20; i++) {
            dearCalls(x, whole);
        }
        long made = allocated() - before;
        Due.is("20 times all dear calls made " + made + " bytes, which is little", made < 20000, true);
        long beforeNew = allocated();
        new SpanBench();
        long madeNew = allocated() - beforeNew;
        Due.is("a new object takes " + madeNew + " bytes, which is little", madeNew < 40000, true);
    }

    private static int dearCalls(SpanBench x, SpanBench whole) {
        int sum = x.lay() + x.point(0, 0) + x.move(1000) + x.move(-1000) + x.back(1, 0) + x.visits(1, 1000);
        sum += x.words(10) + x.classes() + x.ground(2) + x.loop() + x.steps(1000);
        sum += whole.lay() + whole.rounds() + whole.round(0, 0) + whole.words(10) + whole.ground(3) + whole.steps(1000);
        return sum;
    }

    private static long allocated() {
        com.sun.management.ThreadMXBean bean = (com.sun.management.ThreadMXBean) ManagementFactory.getThreadMXBean();
        return bean.getThreadAllocatedBytes(Thread.currentThread().getId());
    }
}
