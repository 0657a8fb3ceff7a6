import java.util.Map;
import java.util.Set;
import javax.lang.model.element.Element;
import javax.lang.model.element.ExecutableElement;
import javax.lang.model.element.Modifier;
import javax.lang.model.element.TypeElement;
import javax.lang.model.element.VariableElement;
import javax.lang.model.type.ArrayType;
import javax.lang.model.type.DeclaredType;
import javax.lang.model.type.TypeKind;
import javax.lang.model.type.TypeMirror;

/** The types and the library that the rules 3 and 4 of ../shared/LANGUAGE.md leave. */
final class Library {

    static final Set<String> IMPORTS =
            Set.of("java.util.Arrays", "java.util.ArrayList", "java.util.List", "java.util.Iterator");
    private static final Set<String> LISTS = Set.of("java.util.ArrayList", "java.util.List");
    private static final Set<String> GENERIC = Set.of("java.util.ArrayList", "java.util.List", "java.util.Iterator",
            "java.lang.Iterable", "java.lang.Comparable");
    private static final Set<String> PLAIN = Set.of("java.lang.String", "java.lang.StringBuilder", "java.lang.Integer");
    private static final Set<String> NUMBERS = Set.of("java.lang.Integer", "java.lang.Long", "java.lang.Math");
    private static final Map<String, Set<String>> METHODS = Map.of(
            "java.lang.String", Set.of("length()", "charAt(int)", "isEmpty()", "equals(java.lang.Object)",
                    "indexOf(int)", "substring(int)", "substring(int,int)", "toCharArray()"),
            "java.lang.StringBuilder", Set.of("append(char)", "append(java.lang.String)", "append(int)",
                    "charAt(int)", "setCharAt(int,char)", "setLength(int)", "deleteCharAt(int)", "reverse()",
                    "length()", "toString()"),
            "java.lang.System", Set.of("arraycopy(java.lang.Object,int,java.lang.Object,int,int)"),
            "java.util.Iterator", Set.of("hasNext()", "next()"),
            "java.lang.Iterable", Set.of("iterator()"),
            "java.lang.Comparable", Set.of("compareTo(T)"));
    private static final Set<String> LIST_METHODS = Set.of("add(E)", "add(int,E)", "get(int)", "set(int,E)",
            "remove(int)", "size()", "isEmpty()", "clear()");
    private static final Set<String> ARRAYS_METHODS = Set.of("copyOf", "copyOfRange", "fill");

    private final TypeElement program;

    Library(TypeElement program) {
        this.program = program;
    }

    /** Whether something stands in the program itself. */
    boolean isOwn(Element element) {
        Element at = element;
        while (at != null && !at.equals(program)) {
            at = at.getEnclosingElement();
        }
        return at != null;
    }

    boolean hasType(TypeMirror type) {
        switch (type.getKind()) {
            case VOID: case TYPEVAR:
                return true;
            case ARRAY:
                return isComponent(((ArrayType) type).getComponentType());
            case DECLARED:
                String name = nameOf(type);
                return isOwnType(type) || PLAIN.contains(name) || GENERIC.contains(name) && hasItsArgument(type);
            default:
                return type.getKind().isPrimitive();
        }
    }

    private boolean isComponent(TypeMirror type) {
        if (type.getKind() == TypeKind.ARRAY) {
            TypeMirror inner = ((ArrayType) type).getComponentType();
            return inner.getKind().isPrimitive() && inner.getKind() != TypeKind.BOOLEAN;
        }
        return type.getKind().isPrimitive() || isOwnType(type);
    }

    private boolean hasItsArgument(TypeMirror type) {
        for (TypeMirror argument : ((DeclaredType) type).getTypeArguments()) {
            boolean isItem = argument.getKind() == TypeKind.TYPEVAR || isOwnType(argument)
                    || nameOf(argument).equals("java.lang.Integer");
            if (!isItem) {
                return false;
            }
        }
        return true;
    }

    boolean isOwnType(TypeMirror type) {
        return type.getKind() == TypeKind.DECLARED && isOwn(((DeclaredType) type).asElement());
    }

    /** The full name of a class, or what the type is called. */
    static String nameOf(TypeMirror type) {
        return type.getKind() == TypeKind.DECLARED
                ? ((TypeElement) ((DeclaredType) type).asElement()).getQualifiedName().toString() : type.toString();
    }

    /** Whether a method that is not the program's own may be called on a receiver, an object or a class. */
    boolean hasMethod(TypeMirror receiver, ExecutableElement method, TypeMirror firstArgument) {
        String name = method.getSimpleName().toString();
        if (receiver.getKind() == TypeKind.ARRAY) {
            return name.equals("clone");
        }
        String owner = nameOf(receiver);
        if (NUMBERS.contains(owner)) {
            return isOfWholeNumbers(method) && !name.endsWith("Exact");
        }
        if (LISTS.contains(owner)) {
            return LIST_METHODS.contains(method.toString()) || name.equals("of") && method.getParameters().size() <= 6;
        }
        if (owner.equals("java.util.Arrays")) {
            return ARRAYS_METHODS.contains(name) && firstArgument.getKind() == TypeKind.ARRAY
                    && ((ArrayType) firstArgument).getComponentType().getKind().isPrimitive();
        }
        return METHODS.getOrDefault(owner, Set.of()).contains(method.toString());
    }

    boolean hasConstructor(TypeMirror made, ExecutableElement constructor) {
        String name = nameOf(made);
        boolean isText = name.equals("java.lang.String") && constructor.toString().equals("String(char[])");
        return isOwnType(made) || isText || name.equals("java.lang.StringBuilder") || name.equals("java.util.ArrayList");
    }

    private static boolean isOfWholeNumbers(ExecutableElement method) {
        for (VariableElement parameter : method.getParameters()) {
            if (!isWhole(parameter.asType())) {
                return false;
            }
        }
        return method.getModifiers().contains(Modifier.STATIC)
                && (isWhole(method.getReturnType()) || method.getReturnType().getKind() == TypeKind.BOOLEAN);
    }

    private static boolean isWhole(TypeMirror type) {
        return type.getKind() == TypeKind.INT || type.getKind() == TypeKind.LONG;
    }
}
