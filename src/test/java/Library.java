import java.util.List;
import java.util.Set;
import javax.lang.model.element.Element;
import javax.lang.model.element.ExecutableElement;
import javax.lang.model.element.Modifier;
import javax.lang.model.element.TypeElement;
import javax.lang.model.element.VariableElement;
import javax.lang.model.type.ArrayType;
import javax.lang.model.type.DeclaredType;
import javax.lang.model.type.TypeKind;
import javax.lang.model.type.TypeMirror;

/** What rules 3 and 4 of ../shared/LANGUAGE.md leave of Java's types and of its library. */
final class Library {
    private static final Set<String> TEXT_CALLS = Set.of(
            "length()", "charAt(int)", "isEmpty()", "equals(java.lang.Object)", "substring(int)",
            "substring(int,int)", "toCharArray()");
    private static final Set<String> BUILDER_CALLS = Set.of(
            "append(char)", "append(java.lang.String)", "append(int)", "charAt(int)",
            "setCharAt(int,char)", "setLength(int)", "deleteCharAt(int)", "reverse()", "length()",
            "toString()");
    private static final Set<String> LIST_CALLS =
            Set.of("add", "get", "set", "remove", "size", "isEmpty", "clear", "of");
    private static final Set<String> ARRAYS_CALLS = Set.of("copyOf", "copyOfRange", "fill");
    private static final Set<String> OWN_TO_IMPLEMENT =
            Set.of("java.util.Iterator", "java.lang.Iterable", "java.lang.Comparable");
    private static final Set<String> LISTS = Set.of("java.util.ArrayList", "java.util.List");

    /** A class of the program itself: none of these has a package. */
    boolean isOwn(Element type) {
        Element outermost = type;
        while (outermost.getEnclosingElement() instanceof TypeElement
                || outermost.getEnclosingElement() instanceof ExecutableElement) {
            outermost = outermost.getEnclosingElement();
        }
        return outermost instanceof TypeElement && outermost.getEnclosingElement().toString().contains("unnamed");
    }

    private static String name(TypeMirror type) {
        if (type.getKind() == TypeKind.DECLARED) {
            return ((DeclaredType) type).asElement().toString();
        }
        return type.toString();
    }

    boolean isText(TypeMirror type) {
        return name(type).equals("java.lang.String");
    }

    boolean isThrowable(TypeMirror type) {
        TypeMirror at = type;
        while (at.getKind() == TypeKind.DECLARED) {
            if (name(at).equals("java.lang.Throwable")) {
                return true;
            }
            at = ((TypeElement) ((DeclaredType) at).asElement()).getSuperclass();
        }
        return false;
    }

    TypeKind elementKind(TypeMirror type) {
        return type.getKind() == TypeKind.ARRAY ? ((ArrayType) type).getComponentType().getKind() : TypeKind.NONE;
    }

    boolean isType(TypeMirror type) {
        switch (type.getKind()) {
            case VOID:
            case TYPEVAR:
                return true;
            case ARRAY:
                return isElement(((ArrayType) type).getComponentType());
            case DECLARED:
                return isClass((DeclaredType) type);
            default:
                return type.getKind().isPrimitive();
        }
    }

    private boolean isElement(TypeMirror type) {
        if (type.getKind() == TypeKind.ARRAY) {
            TypeKind kind = ((ArrayType) type).getComponentType().getKind();
            return kind.isPrimitive() && kind != TypeKind.BOOLEAN;
        }
        return type.getKind().isPrimitive()
                || type.getKind() == TypeKind.DECLARED && isOwn(((DeclaredType) type).asElement());
    }

    private boolean isClass(DeclaredType type) {
        String name = name(type);
        if (name.equals("java.lang.String") || name.equals("java.lang.StringBuilder")
                || name.equals("java.lang.Integer") || isOwn(type.asElement())) {
            return true;
        }
        boolean holdsOwn = !type.getTypeArguments().isEmpty();
        for (TypeMirror held : type.getTypeArguments()) {
            holdsOwn &= name(held).equals("java.lang.Integer") || held.getKind() == TypeKind.TYPEVAR
                    || held.getKind() == TypeKind.DECLARED && isOwn(((DeclaredType) held).asElement());
        }
        return holdsOwn && (LISTS.contains(name) || OWN_TO_IMPLEMENT.contains(name));
    }

    boolean isMade(String name) {
        return name.equals("java.lang.String") || name.equals("java.lang.StringBuilder")
                || name.equals("java.util.ArrayList");
    }

    /** Whether the rules have the call: on is what it is called on, or null. */
    boolean has(TypeMirror on, ExecutableElement called, List<TypeMirror> arguments) {
        if (on == null) {
            return false;
        }
        String what = called.getSimpleName().toString();
        String name = name(on);
        if (on.getKind() == TypeKind.ARRAY) {
            return what.equals("clone");
        }
        if (name.equals("java.lang.String")) {
            boolean findsChar = what.equals("indexOf") && arguments.size() == 1
                    && arguments.get(0).getKind() == TypeKind.CHAR;
            return findsChar || TEXT_CALLS.contains(called.toString());
        }
        if (name.equals("java.lang.StringBuilder")) {
            return BUILDER_CALLS.contains(called.toString());
        }
        if (LISTS.contains(name)) {
            return LIST_CALLS.contains(what);
        }
        return hasStatic(name, what, called) || OWN_TO_IMPLEMENT.contains(name);
    }

    private static boolean hasStatic(String name, String what, ExecutableElement called) {
        if (name.equals("java.lang.System")) {
            return what.equals("arraycopy");
        }
        if (name.equals("java.util.Arrays")) {
            return ARRAYS_CALLS.contains(what);
        }
        if (!Set.of("java.lang.Math", "java.lang.Integer", "java.lang.Long").contains(name)
                || what.endsWith("Exact") || !called.getModifiers().contains(Modifier.STATIC)) {
            return false;
        }
        for (VariableElement parameter : called.getParameters()) {
            if (!isWhole(parameter.asType())) {
                return false;
            }
        }
        return isWhole(called.getReturnType());
    }

    private static boolean isWhole(TypeMirror type) {
        return type.getKind() == TypeKind.INT || type.getKind() == TypeKind.LONG;
    }
}
