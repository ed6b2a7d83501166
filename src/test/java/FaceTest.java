import java.lang.reflect.Constructor;
import java.lang.reflect.Field;
import java.lang.reflect.Method;
import java.lang.reflect.Modifier;
import java.util.Arrays;
import java.util.Set;
import java.util.TreeSet;

/** The class has the document's face, and nothing else of it can be seen. */
public final class FaceTest {
    private static final String IAE = "IllegalArgumentException";
    private static final String ISE = "IllegalStateException";
    private static final String IOOBE = "IndexOutOfBoundsException";
    private static final String NSEE = "NoSuchElementException";
    private static final String UOE = "UnsupportedOperationException";

    public static void main(String[] args) {
        Answers answers = new Answers();
        answers.due("class", Modifier.PUBLIC | Modifier.FINAL, GeneBook.class.getModifiers());
        answers.due("methods", dueMethods(), seenMethods());
        answers.due("fields", Set.of("public static final int NONE"), seenFields());
        answers.due("constructors", 1, GeneBook.class.getDeclaredConstructors().length);
        for (Constructor<?> maker : GeneBook.class.getDeclaredConstructors()) {
            answers.due("constructor", "public GeneBook()", maker.toString());
        }
        answers.due("NONE", -1, GeneBook.NONE);
        checkNames(answers);
        answers.end();
    }

    private static Set<String> dueMethods() {
        return new TreeSet<>(Set.of(
                "boolean bases(long, int) []",
                "boolean type(long, int) []",
                "boolean cut(int) []",
                "void clear() []",
                "int length() []",
                "int add() " + Arrays.asList(IAE, ISE, NSEE, UOE),
                "int features() []",
                "int about(int, int) " + Arrays.asList(IOOBE),
                "int fault() []",
                "int tell(int, int) " + Arrays.asList(IOOBE, IAE, ISE, UOE),
                "int frames(int, int) " + Arrays.asList(IAE),
                "int frame(int, int, int, int) " + Arrays.asList(IAE, IOOBE),
                "int write() []",
                "int out(int) []"));
    }

    private static Set<String> seenMethods() {
        Set<String> seen = new TreeSet<>();
        for (Method method : GeneBook.class.getDeclaredMethods()) {
            if (!Modifier.isPrivate(method.getModifiers())) {
                seen.add(names(method.getReturnType()) + " " + method.getName() + "("
                        + names(method.getParameterTypes()) + ") ["
                        + names(method.getExceptionTypes()) + "]");
            }
        }
        return seen;
    }

    private static Set<String> seenFields() {
        Set<String> seen = new TreeSet<>();
        for (Field field : GeneBook.class.getDeclaredFields()) {
            if (!Modifier.isPrivate(field.getModifiers())) {
                seen.add(Modifier.toString(field.getModifiers()) + " " + field.getType() + " "
                        + field.getName());
            }
        }
        return seen;
    }

    private static void checkNames(Answers answers) {
        Set<String> shown = new TreeSet<>();
        for (Method method : GeneBook.class.getDeclaredMethods()) {
            if (Modifier.isPublic(method.getModifiers())) {
                shown.add(method.getName());
            }
        }
        for (Method method : GeneBook.class.getDeclaredMethods()) {
            if (Modifier.isPrivate(method.getModifiers())) {
                answers.due("private " + method.getName(), false, shown.contains(method.getName()));
            }
        }
        for (Class<?> inside : GeneBook.class.getDeclaredClasses()) {
            answers.due(inside + " is static", true, Modifier.isStatic(inside.getModifiers()));
        }
    }

    private static String names(Class<?>... types) {
        StringBuilder text = new StringBuilder();
        for (Class<?> type : types) {
            text.append(text.length() == 0 ? "" : ", ").append(type.getSimpleName());
        }
        return text.toString();
    }
}
