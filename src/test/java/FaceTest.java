import java.lang.reflect.Constructor;
import java.lang.reflect.Field;
import java.lang.reflect.Method;
import java.lang.reflect.Modifier;
import java.util.ArrayList;
import java.util.List;
import java.util.Set;
import java.util.TreeSet;

/** The class has the face that ../shared/DOC.md shows, and nothing else of it can be seen. */
public final class FaceTest {
    private final Answers answers = new Answers();

    private FaceTest() {
    }

    public static void main(String[] args) {
        FaceTest test = new FaceTest();
        test.face();
        test.classesInside();
        test.names();
        test.answers.end();
    }

    private void face() {
        List<String> face = Document.face();
        answers.due("lines of the face", 16, face.size());
        answers.due("heads of the promises", face.subList(1, 16), Document.heads());
        answers.due("class", Modifier.PUBLIC | Modifier.FINAL, GeneBook.class.getModifiers());
        Set<String> due = new TreeSet<>();
        for (String line : face) {
            due.add("public " + withoutNames(line));
        }
        answers.due("members", due, seen());
        answers.due("NONE", -1, GeneBook.NONE);
    }

    /** A line of the face as a reader of the class sees it: parameters have no names. */
    private static String withoutNames(String line) {
        int from = line.indexOf('(');
        int to = line.indexOf(')');
        if (from < 0) {
            return line;
        }
        String parameters = line.substring(from, to).replaceAll(" \\w+(?=,|$)", "");
        return line.substring(0, from) + parameters + line.substring(to);
    }

    private static Set<String> seen() {
        Set<String> seen = new TreeSet<>();
        for (Field field : GeneBook.class.getDeclaredFields()) {
            if (!Modifier.isPrivate(field.getModifiers())) {
                seen.add(Modifier.toString(field.getModifiers()) + " " + field.getType() + " "
                        + field.getName() + " = " + GeneBook.NONE);
            }
        }
        for (Constructor<?> maker : GeneBook.class.getDeclaredConstructors()) {
            seen.add(maker.toString());
        }
        for (Method method : GeneBook.class.getDeclaredMethods()) {
            if (!Modifier.isPrivate(method.getModifiers())) {
                String thrown = names(method.getExceptionTypes());
                String marks = Modifier.toString(method.getModifiers());
                seen.add(marks + " " + names(method.getReturnType()) + " " + method.getName() + "("
                        + names(method.getParameterTypes()) + ")" + (thrown.isEmpty() ? "" : " throws " + thrown));
            }
        }
        return seen;
    }

    private static String names(Class<?>... types) {
        List<String> names = new ArrayList<>();
        for (Class<?> type : types) {
            names.add(type.getSimpleName());
        }
        return String.join(", ", names);
    }

    private void classesInside() {
        for (Class<?> inside : GeneBook.class.getDeclaredClasses()) {
            int marks = inside.getModifiers();
            answers.due(inside + " is static", true, Modifier.isStatic(marks));
            answers.due(inside + " is hidden", false, Modifier.isPublic(marks) || Modifier.isProtected(marks));
        }
    }

    private void names() {
        List<Method> all = new ArrayList<>(List.of(GeneBook.class.getDeclaredMethods()));
        for (Class<?> inside : GeneBook.class.getDeclaredClasses()) {
            all.addAll(List.of(inside.getDeclaredMethods()));
        }
        Set<String> shown = new TreeSet<>();
        for (Method method : all) {
            if (Modifier.isPublic(method.getModifiers())) {
                shown.add(method.getName());
            }
        }
        for (Method method : all) {
            if (Modifier.isPrivate(method.getModifiers())) {
                answers.due("private " + method.getName(), false, shown.contains(method.getName()));
            }
        }
    }
}
