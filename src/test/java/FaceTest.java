import java.lang.reflect.Field;
import java.lang.reflect.Method;
import java.lang.reflect.Modifier;
import java.util.Arrays;
import java.util.List;
import java.util.TreeSet;
import java.util.stream.Collectors;

/** The class has the document's face and no other member that is not private. */
public final class FaceTest {
    private static final String ARGUMENT = " throws IllegalArgumentException";
    private static final String BOTH = ARGUMENT + ", IllegalStateException";
    private static final List<String> METHODS = List.of(
            "int flat(int, int)" + BOTH,
            "int meter(int, int, int, int, int)" + BOTH,
            "int reading(int, int, int)" + BOTH,
            "int changed(int, int, int, int)" + BOTH,
            "int correct(int, int, int)" + ARGUMENT,
            "int tested(int, int)" + ARGUMENT,
            "int cost(int, int, int)" + ARGUMENT,
            "int base(int, int)" + ARGUMENT,
            "int moves(int, int)" + BOTH,
            "long prepaid(int, int, int)" + ARGUMENT,
            "int run(int)" + BOTH,
            "long use(int, int)" + ARGUMENT,
            "int barred(int, int, int)" + ARGUMENT,
            "long line(int, int, int, int)" + BOTH,
            "long share(int, int)" + BOTH,
            "long part(int, int, int)" + BOTH,
            "long balance(int, int)" + BOTH,
            "long difference(int, int)" + BOTH,
            "int edition(int)" + ARGUMENT);

    public static void main(String[] args) {
        checkMethods();
        checkFields();
        Check.due("constructors", "[public BillShares()]",
                Arrays.toString(BillShares.class.getDeclaredConstructors()));
        Check.due("the class's modifiers", "public final", Modifier.toString(BillShares.class.getModifiers()));
        for (Class<?> inside : BillShares.class.getDeclaredClasses()) {
            Check.due(inside.getName(), "private static final", Modifier.toString(inside.getModifiers()));
        }
        Check.end();
    }

    private static void checkMethods() {
        TreeSet<String> open = new TreeSet<>();
        TreeSet<String> openNames = new TreeSet<>();
        TreeSet<String> closedNames = new TreeSet<>();
        for (Method method : BillShares.class.getDeclaredMethods()) {
            if (Modifier.isPrivate(method.getModifiers())) {
                closedNames.add(method.getName());
                continue;
            }
            open.add(method.getReturnType().getSimpleName() + " " + method.getName()
                    + "(" + names(method.getParameterTypes()) + ") throws " + names(method.getExceptionTypes()));
            openNames.add(method.getName());
            Check.due(method.getName(), "public", Modifier.toString(method.getModifiers()));
        }
        Check.due("the methods", new TreeSet<>(METHODS).toString(), open.toString());
        closedNames.retainAll(openNames);
        Check.due("private methods with a public one's name", "[]", closedNames.toString());
    }

    private static String names(Class<?>[] types) {
        return Arrays.stream(types).map(Class::getSimpleName).collect(Collectors.joining(", "));
    }

    private static void checkFields() {
        TreeSet<String> open = new TreeSet<>();
        for (Field field : BillShares.class.getDeclaredFields()) {
            if (!Modifier.isPrivate(field.getModifiers())) {
                open.add(field.toString());
            }
        }
        Check.due("fields that are not private", "[public static final int BillShares.NONE]", open.toString());
        Check.due("NONE", -1, () -> BillShares.NONE);
    }
}
