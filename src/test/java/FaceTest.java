import java.lang.reflect.Constructor;
import java.lang.reflect.Field;
import java.lang.reflect.Method;
import java.lang.reflect.Modifier;
import java.util.ArrayList;
import java.util.List;
import java.util.TreeSet;

/** The public face, member by member, and that nothing else can be seen. */
public final class FaceTest {
    private static final String INDEX = " IndexOutOfBoundsException";
    private static final String ARGUMENT = " IllegalArgumentException";
    private static final String STATE = " IllegalStateException";

    private static final String[] METHODS = {
        "int coil(int int int int)" + ARGUMENT + STATE,
        "int defect(int int int)" + INDEX + ARGUMENT + STATE,
        "int setRules(int int int)" + ARGUMENT,
        "int order(int int)" + ARGUMENT + STATE,
        "int addSlit(int)" + ARGUMENT + STATE,
        "int clearDraft()",
        "int draftSlits()",
        "int draftWidth(int)" + INDEX,
        "int keep()" + STATE,
        "boolean fits(int int)" + INDEX,
        "int fill(int)" + INDEX,
        "int fullestByTrying(int)" + INDEX + STATE,
        "int run(int int)" + INDEX + STATE,
        "int moves(int)" + INDEX,
        "int moved()",
        "int plan(int int)" + INDEX + STATE,
        "int waiting()",
        "int fewestMoves()",
        "int fewestByTrying()",
        "int nextAt(int)" + INDEX,
        "int runAll()",
        "int slits(int)" + INDEX,
        "int slitWeight(int int)" + INDEX,
        "int slitOrder(int int)" + INDEX,
        "int lost(int int)" + INDEX + ARGUMENT,
        "int delivered(int)" + INDEX,
        "int heatOf(int)" + INDEX,
        "int stock(int)",
    };

    public static void main(String[] args) {
        Checks.due("NONE", SlittingOffice.NONE, -1);
        methods();
        fields();
        Constructor<?>[] constructors = SlittingOffice.class.getDeclaredConstructors();
        Checks.due("constructors", constructors.length, 1);
        Checks.due("the constructor is public", Modifier.isPublic(constructors[0].getModifiers()), true);
        Checks.due("its parameters", constructors[0].getParameterCount(), 0);
        int modifiers = SlittingOffice.class.getModifiers();
        Checks.due("public and final", Modifier.isPublic(modifiers) && Modifier.isFinal(modifiers), true);
        for (Class<?> inside : SlittingOffice.class.getDeclaredClasses()) {
            Checks.due(inside + " is static", Modifier.isStatic(inside.getModifiers()), true);
            Checks.due(inside + " is public", Modifier.isPublic(inside.getModifiers()), false);
        }
        Checks.finish();
    }

    private static void methods() {
        TreeSet<String> due = new TreeSet<>(List.of(METHODS));
        TreeSet<String> got = new TreeSet<>();
        TreeSet<String> publicNames = new TreeSet<>();
        List<Method> others = new ArrayList<>();
        for (Method method : SlittingOffice.class.getDeclaredMethods()) {
            if (Modifier.isPrivate(method.getModifiers())) {
                others.add(method);
            } else {
                got.add(textOf(method));
                publicNames.add(method.getName());
                Checks.due(method + " is public", Modifier.isPublic(method.getModifiers()), true);
            }
        }
        Checks.due("methods " + got + " where " + due, got.equals(due), true);
        for (Class<?> inside : SlittingOffice.class.getDeclaredClasses()) {
            others.addAll(List.of(inside.getDeclaredMethods()));
        }
        for (Method method : others) {
            Checks.due(method + " has a public one's name", publicNames.contains(method.getName()), false);
        }
    }

    private static String textOf(Method method) {
        StringBuilder text = new StringBuilder();
        text.append(method.getReturnType().getSimpleName()).append(' ').append(method.getName()).append('(');
        String gap = "";
        for (Class<?> parameter : method.getParameterTypes()) {
            text.append(gap).append(parameter.getSimpleName());
            gap = " ";
        }
        text.append(')');
        for (Class<?> thrown : method.getExceptionTypes()) {
            text.append(' ').append(thrown.getSimpleName());
        }
        return text.toString();
    }

    private static void fields() {
        for (Field field : SlittingOffice.class.getDeclaredFields()) {
            boolean isFace = field.getName().equals("NONE");
            int modifiers = field.getModifiers();
            Checks.due(field + " is public", Modifier.isPublic(modifiers), isFace);
            Checks.due(field + " is private", Modifier.isPrivate(modifiers), !isFace);
            if (Modifier.isStatic(modifiers)) {
                Checks.due(field + " is final", Modifier.isFinal(modifiers), true);
            }
        }
    }
}
