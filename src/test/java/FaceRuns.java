import java.lang.reflect.Constructor;
import java.lang.reflect.Field;
import java.lang.reflect.Method;
import java.lang.reflect.Modifier;
import java.nio.file.Files;
import java.nio.file.Path;
import java.util.Arrays;
import java.util.Set;
import java.util.TreeSet;

/** The face that the document gives, and what can be counted of the rules in ../shared/LANGUAGE.md. */
public final class FaceRuns {
    static final String[] FACE = {
        "int node(char,int,int,int) IllegalArgumentException IllegalStateException",
        "int constant(int,int) IllegalArgumentException",
        "int function(int,int,int,int) IllegalArgumentException",
        "int remove(int) IllegalArgumentException NoSuchElementException",
        "char build(int) IllegalArgumentException",
        "int trace()", "int traceAt(int) IndexOutOfBoundsException", "int made()", "int constants()", "int calls()",
        "int looked()", "int worked()", "int nodesLeft()",
        "char kindOf(int) IllegalArgumentException NoSuchElementException",
        "long numberOf(int) IllegalArgumentException NoSuchElementException",
        "char run(int,int) IllegalStateException",
        "char plain(int,int,int) IllegalArgumentException",
        "char resultKind() NoSuchElementException", "long result() NoSuchElementException",
        "int outputs()", "long output(int) IndexOutOfBoundsException", "int steps()",
        "float valueShare() ArithmeticException", "double meanLeft() ArithmeticException", "boolean isWhole()"};
    /** What no rule lets stand in the text of the class. */
    static final String[] LEFT_OUT = {"::", "finally", "synchronized", "assert ", "import java.util.function", "package ", "Exact(",
        "Float.", "Double.", "Character.", "System.out", "System.nano", "System.current", "System.identity", "System.exit",
        "Thread", "Random", "java.io", "java.nio", "static {", "hashCode", "getMessage", "Exception extends"};
    static int wrong = 0;

    public static void main(String[] args) throws Exception {
        Class<?> face = ComptimeBench.class;
        check(Modifier.isPublic(face.getModifiers()) && Modifier.isFinal(face.getModifiers()), "public and final");
        Set<String> names = new TreeSet<>();
        Set<String> told = new TreeSet<>();
        for (Method method : face.getDeclaredMethods()) {
            if (Modifier.isPublic(method.getModifiers())) {
                told.add(tell(method));
                names.add(method.getName());
            } else {
                check(Modifier.isPrivate(method.getModifiers()), "private: " + method);
            }
        }
        check(told.equals(new TreeSet<>(Arrays.asList(FACE))), "the face: " + told);
        for (Constructor<?> constructor : face.getDeclaredConstructors()) {
            check(Modifier.isPublic(constructor.getModifiers()) && constructor.getParameterCount() == 0, "the constructor");
        }
        fields(face, true);
        check(face.getDeclaredClasses().length <= 14, "some twelve classes");
        for (Class<?> inner : face.getDeclaredClasses()) {
            check(Modifier.isStatic(inner.getModifiers()) && !Modifier.isPublic(inner.getModifiers())
                    && !Modifier.isProtected(inner.getModifiers()), "a static class inside: " + inner);
            fields(inner, false);
            for (Method method : inner.getDeclaredMethods()) {
                check(!names.contains(method.getName()), "a name of the face: " + method);
                check(method.getParameterCount() <= 7, "seven parameters: " + method);
            }
        }
        String text = Files.readString(Path.of("src/main/java/ComptimeBench.java"));
        for (String left : LEFT_OUT) {
            check(!text.contains(left), "the text has " + left);
        }
        check(text.chars().allMatch(c -> c == '\n' || c >= 32 && c < 127), "plain signs alone");
        System.out.println(wrong == 0 ? "the face is as due" : "the face is not as due");
        if (wrong != 0) {
            System.exit(1);
        }
    }

    static String tell(Method method) {
        StringBuilder line = new StringBuilder(method.getReturnType() + " " + method.getName() + "(");
        for (int i = 0; i < method.getParameterCount(); i++) {
            line.append(i == 0 ? "" : ",").append(method.getParameterTypes()[i]);
        }
        line.append(")");
        for (Class<?> thrown : method.getExceptionTypes()) {
            line.append(" ").append(thrown.getSimpleName());
        }
        return line.toString();
    }

    static void fields(Class<?> of, boolean allPrivate) {
        int count = 0;
        for (Field field : of.getDeclaredFields()) {
            if (Modifier.isStatic(field.getModifiers())) {
                check(Modifier.isFinal(field.getModifiers()), "a constant: " + field);
            } else {
                count++;
                check(!allPrivate || Modifier.isPrivate(field.getModifiers()), "private: " + field);
            }
        }
        check(count <= 24, "some twenty fields in " + of);
    }

    static void check(boolean holds, String what) {
        if (!holds) {
            wrong++;
            System.out.println("not as due: " + what);
        }
    }
}
