import java.lang.reflect.Field;
import java.lang.reflect.Method;
import java.lang.reflect.Modifier;
import java.util.Arrays;
import java.util.List;
import java.util.TreeSet;
import java.util.stream.Collectors;

/** The class has the document's face and no other member that is not private. */
public final class FaceTest {
    private static final List<String> METHODS = List.of(
            "int flat(int, int)",
            "int meter(int, int, int, int, int)",
            "int reading(int, int, int)",
            "int changed(int, int, int, int)",
            "int correct(int, int, int)",
            "int tested(int, int)",
            "int cost(int, int, int)",
            "int base(int, int)",
            "int moves(int, int)",
            "long prepaid(int, int, int)",
            "int run(int)",
            "long use(int, int)",
            "int barred(int, int, int)",
            "long line(int, int, int, int)",
            "long share(int, int)",
            "long part(int, int, int)",
            "long balance(int, int)",
            "long difference(int, int)",
            "int edition(int)");

    public static void main(String[] args) {
        checkMethods();
        checkFields();
        Check.due("constructors", "[public BillShares()]",
                Arrays.toString(BillShares.class.getDeclaredConstructors()));
        Check.due("the class's modifiers", "public final", Modifier.toString(BillShares.class.getModifiers()));
        for (Class<?> inside : BillShares.class.getDeclaredClasses()) {
            Check.due(inside.getName(), "private static final", Modifier.toString(inside.getModifiers()));
        }
        Check.end();
    }

    private static void checkMethods() {
        TreeSet<String> open = new TreeSet<>();
        TreeSet<String> openNames = new TreeSet<>();
        TreeSet<String> closedNames = new TreeSet<>();
        for (Method method : BillShares.class.getDeclaredMethods()) {
            if (Modifier.isPrivate(method.getModifiers())) {
                closedNames.add(method.getName());
                continue;
            }
            String types = Arrays.stream(method.getParameterTypes())
                    .map(Class::getSimpleName).collect(Collectors.joining(", "));
            open.add(method.getReturnType().getSimpleName() + " " + method.getName() + "(" + types + ")");
            openNames.add(method.getName());
            Check.due(method.getName(), "public", Modifier.toString(method.getModifiers()));
        }
        Check.due("the methods", new TreeSet<>(METHODS).toString(), open.toString());
        closedNames.retainAll(openNames);
        Check.due("private methods with a public one's name", "[]", closedNames.toString());
    }

    private static void checkFields() {
        TreeSet<String> open = new TreeSet<>();
        for (Field field : BillShares.class.getDeclaredFields()) {
            if (!Modifier.isPrivate(field.getModifiers())) {
                open.add(field.toString());
            }
        }
        Check.due("fields that are not private", "[public static final int BillShares.NONE]", open.toString());
        Check.due("NONE", -1, () -> BillShares.NONE);
    }
}
