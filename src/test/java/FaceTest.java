import java.lang.reflect.Constructor;
import java.lang.reflect.Field;
import java.lang.reflect.Method;
import java.lang.reflect.Modifier;
import java.util.Set;
import java.util.TreeSet;

/** The public face: what the document lists, and nothing else that is not private. */
public final class FaceTest {
    private static final Set<String> METHODS = Set.of("block/2", "jump/2", "test/3", "walk/2", "heat/3",
            "cool/0", "layout/1", "at/1", "address/1", "branch/2", "target/2", "cost/2", "heatOf/2", "count/1");
    private static final Set<String> CONSTANTS = Set.of("REFUSED", "FULL", "NONE", "SHORT", "LONG");

    private static final Class<?> FACE = LayoutOptimizer.class;

    public static void main(String[] args) {
        Check check = new Check("The public face");
        check.test("public final class LayoutOptimizer", FaceTest::ofTheClass);
        check.test("the constants", FaceTest::constants);
        check.test("the methods, and no other that is not private", FaceTest::methods);
        check.test("the fields, and no other that is not private", FaceTest::fields);
        check.test("the constructor, and no other", FaceTest::constructors);
        check.end();
    }

    private static void ofTheClass(Check check) {
        check.dueTrue("public", Modifier.isPublic(FACE.getModifiers()));
        check.dueTrue("final", Modifier.isFinal(FACE.getModifiers()));
        for (Class<?> inside : FACE.getDeclaredClasses()) {
            check.dueTrue(inside + " is static", Modifier.isStatic(inside.getModifiers()));
        }
    }

    private static void constants(Check check) {
        check.due("REFUSED", LayoutOptimizer.REFUSED, -1);
        check.due("FULL", LayoutOptimizer.FULL, -2);
        check.due("NONE", LayoutOptimizer.NONE, -3);
        check.due("SHORT", LayoutOptimizer.SHORT, 1);
        check.due("LONG", LayoutOptimizer.LONG, 2);
    }

    private static void methods(Check check) {
        Set<String> open = new TreeSet<>();
        for (Method method : FACE.getDeclaredMethods()) {
            if (!Modifier.isPrivate(method.getModifiers())) {
                open.add(method.getName() + "/" + method.getParameterCount());
                check.dueTrue(method + " is public", Modifier.isPublic(method.getModifiers()));
                check.dueTrue(method + " answers int", method.getReturnType() == int.class);
                for (Class<?> type : method.getParameterTypes()) {
                    check.dueTrue(method + " takes int", type == int.class);
                }
            }
        }
        check.dueTrue("methods " + open, open.equals(METHODS));
    }

    private static void fields(Check check) {
        Set<String> open = new TreeSet<>();
        for (Field field : FACE.getDeclaredFields()) {
            int modifiers = field.getModifiers();
            if (!Modifier.isPrivate(modifiers)) {
                open.add(field.getName());
                check.dueTrue(field + " is a public constant",
                        Modifier.isPublic(modifiers) && Modifier.isStatic(modifiers));
            }
            if (Modifier.isStatic(modifiers)) {
                check.dueTrue(field + " is final", Modifier.isFinal(modifiers));
            }
        }
        check.dueTrue("constants " + open, open.equals(CONSTANTS));
    }

    private static void constructors(Check check) {
        Constructor<?>[] all = FACE.getDeclaredConstructors();
        check.due("constructors", all.length, 1);
        check.dueTrue(all[0] + " is public", Modifier.isPublic(all[0].getModifiers()));
        check.dueTrue(all[0] + " takes one int",
                all[0].getParameterCount() == 1 && all[0].getParameterTypes()[0] == int.class);
    }
}
