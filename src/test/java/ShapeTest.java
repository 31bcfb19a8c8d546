import java.lang.reflect.Constructor;
import java.lang.reflect.Field;
import java.lang.reflect.Method;
import java.lang.reflect.Modifier;
import java.util.ArrayList;
import java.util.Arrays;
import java.util.List;
import java.util.Set;
import java.util.TreeSet;

/** Rules of LANGUAGE.md on the class, the classes inside it and their members. */
final class ShapeTest {
    private static final int MOST_CLASSES = 12;
    private static final int MOST_FIELDS = 20;
    private static final int MOST_PARAMETERS = 7;
    private static final Set<String> CONSTANT_TYPES = Set.of("int", "long", "boolean", "char", "class java.lang.String");

    private final List<Class<?>> classes = new ArrayList<>();
    private final TreeSet<String> publicNames = new TreeSet<>();

    private ShapeTest() {
        classes.add(TenderHall.class);
        classes.addAll(Arrays.asList(TenderHall.class.getDeclaredClasses()));
        for (Method method : TenderHall.class.getDeclaredMethods()) {
            if (Modifier.isPublic(method.getModifiers())) {
                publicNames.add(method.getName());
            }
        }
    }

    static void run() {
        ShapeTest test = new ShapeTest();
        Check.isTrue("rule 11: some twelve classes", test.classes.size() <= MOST_CLASSES);
        for (Class<?> one : test.classes) {
            test.hiddenInside(one);
            test.fields(one);
            test.methods(one);
        }
    }

    /** Rules 1 and 2: the classes inside are private or package-visible, static, and hold no further ones. */
    private void hiddenInside(Class<?> one) {
        if (one == TenderHall.class) {
            return;
        }
        int seen = one.getModifiers();
        Check.isTrue("rule 1: " + one, Modifier.isStatic(seen) && !Modifier.isPublic(seen) && !Modifier.isProtected(seen));
        Check.same("classes inside " + one, one.getDeclaredClasses().length, 0);
    }

    /** Rules 3, 5 and 11. */
    private void fields(Class<?> one) {
        int count = 0;
        for (Field field : one.getDeclaredFields()) {
            boolean isStatic = Modifier.isStatic(field.getModifiers());
            if (field.isSynthetic() || field.isEnumConstant()) {
                continue;
            }
            if (isStatic) {
                Check.isTrue("rule 5: " + field, Modifier.isFinal(field.getModifiers())
                        && CONSTANT_TYPES.contains(field.getType().toString()));
            } else {
                count++;
                Check.isTrue("rule 3: " + field, isAllowed(field.getType()));
            }
        }
        Check.isTrue("rule 11: some twenty fields in " + one, count <= MOST_FIELDS);
    }

    private boolean isAllowed(Class<?> type) {
        return type.isPrimitive() || classes.contains(type) || type == ArrayList.class
                || type.isArray() && type.getComponentType().isPrimitive();
    }

    /** Rules 1, 6 and 11. */
    private void methods(Class<?> one) {
        for (Constructor<?> maker : one.getDeclaredConstructors()) {
            Check.isTrue("rule 11: " + maker, maker.getParameterCount() <= MOST_PARAMETERS);
        }
        for (Method method : one.getDeclaredMethods()) {
            String name = method.getName();
            Check.isTrue("rule 11: " + method, method.getParameterCount() <= MOST_PARAMETERS);
            Check.same("rule 6: " + method, Set.of("equals", "hashCode", "toString").contains(name), false);
            if (Modifier.isPrivate(method.getModifiers())) {
                Check.same("rule 1: " + method, publicNames.contains(name), false);
            }
        }
    }
}
