import java.lang.reflect.Field;
import java.lang.reflect.Method;
import java.lang.reflect.Modifier;
import java.util.Arrays;
import java.util.List;
import java.util.TreeSet;

/** The public face, and rule 1 of LANGUAGE.md. */
public final class FaceTest {
    private static final Checks CHECKS = new Checks("FaceTest");
    private static final List<String> METHODS = List.of(
            "int edit(int,int,int,int,int)", "int emit(int,int)", "int wire(int)", "boolean alter(int,int)",
            "boolean cut(int)", "int receive(int)", "int held(int)", "int log(int,int)",
            "boolean past(int,int,int)", "int heads(int)", "int entry(int,int,int,int)",
            "int element(int,int,int)", "int value(int,int)", "int depth(int,int)", "int sum(int)",
            "boolean level(int,int)");
    private static final String[] CONSTANTS = {
        "NONE", "BROKEN", "CLASH", "FORGED", "GAP", "ORDER", "FULL", "AGAIN"};

    public static void main(String[] args) throws ReflectiveOperationException {
        Class<?> face = ReplicaDocument.class;
        CHECKS.due("public and final", Modifier.isPublic(face.getModifiers())
                && Modifier.isFinal(face.getModifiers()), true);
        CHECKS.due("constructors", face.getDeclaredConstructors().length, 1);
        CHECKS.due("the public constructor", Modifier.isPublic(face.getConstructor().getModifiers()), true);
        methodsAreThoseOfTheDocument(face);
        fieldsAreThoseOfTheDocument(face);
        for (Class<?> inside : face.getDeclaredClasses()) {
            CHECKS.due(inside + " is static and not public", Modifier.isStatic(inside.getModifiers())
                    && !Modifier.isPublic(inside.getModifiers())
                    && !Modifier.isProtected(inside.getModifiers()), true);
            namesInsideAreOthers(face, inside);
            CHECKS.due(inside + " has at most twenty fields", inside.getDeclaredFields().length <= 20, true);
        }
        CHECKS.end();
    }

    private static void methodsAreThoseOfTheDocument(Class<?> face) {
        TreeSet<String> seen = new TreeSet<>();
        TreeSet<String> names = new TreeSet<>();
        for (Method method : face.getDeclaredMethods()) {
            if (Modifier.isPublic(method.getModifiers())) {
                seen.add(describe(method));
                names.add(method.getName());
            }
        }
        CHECKS.due("public methods " + seen, seen.equals(new TreeSet<>(METHODS)), true);
        for (Method method : face.getDeclaredMethods()) {
            boolean isPublic = Modifier.isPublic(method.getModifiers());
            CHECKS.due(method + " is public or private", isPublic || Modifier.isPrivate(method.getModifiers()), true);
            CHECKS.due(method + " has its name alone", !isPublic && names.contains(method.getName()), false);
        }
    }

    /** "No private method bears the name of a public one": held for the classes inside too. */
    private static void namesInsideAreOthers(Class<?> face, Class<?> inside) {
        for (Method method : inside.getDeclaredMethods()) {
            boolean isTaken = Arrays.stream(face.getMethods()).anyMatch(m -> m.getName().equals(method.getName()));
            CHECKS.due(method + " has its name alone", isTaken, false);
        }
    }

    private static String describe(Method method) {
        String types = Arrays.toString(method.getParameterTypes()).replace(" ", "");
        return method.getReturnType() + " " + method.getName() + "(" + types.substring(1, types.length() - 1) + ")";
    }

    private static void fieldsAreThoseOfTheDocument(Class<?> face) throws ReflectiveOperationException {
        for (int i = 0; i < CONSTANTS.length; i++) {
            Field field = face.getField(CONSTANTS[i]);
            CHECKS.due(CONSTANTS[i], field.getInt(null), -1 - i);
        }
        for (Field field : face.getDeclaredFields()) {
            int modifiers = field.getModifiers();
            boolean isConstant = Arrays.asList(CONSTANTS).contains(field.getName());
            CHECKS.due(field + " is private or a constant of the document", Modifier.isPrivate(modifiers), !isConstant);
            CHECKS.due(field + " is final", Modifier.isFinal(modifiers), true);
        }
    }
}
