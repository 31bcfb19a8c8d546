import java.lang.reflect.Constructor;
import java.lang.reflect.Field;
import java.lang.reflect.Method;
import java.lang.reflect.Modifier;
import java.util.List;
import java.util.TreeSet;

/** The public face: its constants and methods, and nothing beside them. */
final class FaceTest {
    private static final String[] METHODS = {
        "int addTender(int,int,int,int) IllegalArgumentException IllegalStateException",
        "int addLot(int,int) IndexOutOfBoundsException IllegalArgumentException IllegalStateException",
        "int paper(int,int,int) IndexOutOfBoundsException IllegalArgumentException",
        "int bid(int,int,int,int,int) IndexOutOfBoundsException IllegalArgumentException IllegalStateException",
        "int withdraw(int,int,int) IndexOutOfBoundsException IllegalStateException",
        "int pass(int) IllegalArgumentException IllegalStateException",
        "int today()",
        "boolean isIn(int,int,int) IndexOutOfBoundsException",
        "int score(int,int,int) IndexOutOfBoundsException",
        "int ranked(int,int,int) IndexOutOfBoundsException IllegalArgumentException",
        "int award(int,int) IndexOutOfBoundsException IllegalStateException",
        "int awardOf(int,int) IndexOutOfBoundsException",
        "int winner(int) IndexOutOfBoundsException",
        "boolean isVoid(int) IndexOutOfBoundsException",
        "boolean isFinal(int) IndexOutOfBoundsException",
        "int winnerAnew(int,int) IndexOutOfBoundsException",
        "int line(int) IndexOutOfBoundsException",
        "char lineChar(int,int) IndexOutOfBoundsException",
        "int complain(int,int,int) IndexOutOfBoundsException IllegalArgumentException IllegalStateException",
        "int rule(int,boolean,int) IndexOutOfBoundsException IllegalArgumentException IllegalStateException",
        "int appeal(int) IndexOutOfBoundsException IllegalStateException",
        "int stateOf(int) IndexOutOfBoundsException",
        "int sign(int) IndexOutOfBoundsException IllegalStateException",
        "int call(int,int) IndexOutOfBoundsException IllegalArgumentException IllegalStateException",
        "int running(int) IndexOutOfBoundsException",
        "int owes(int) IndexOutOfBoundsException",
        "int held(int) IndexOutOfBoundsException",
        "int lost(int) IndexOutOfBoundsException",
    };

    private FaceTest() {
    }

    static void run() throws ReflectiveOperationException {
        Class<?> face = TenderHall.class;
        Check.isTrue("public final", Modifier.isPublic(face.getModifiers()) && Modifier.isFinal(face.getModifiers()));
        constants(face);
        Constructor<?>[] makers = face.getDeclaredConstructors();
        Check.same("constructors", makers.length, 1);
        Check.same("constructor's parameters", makers[0].getParameterCount(), 0);
        Check.isTrue("constructor is public", Modifier.isPublic(makers[0].getModifiers()));
        methods(face);
    }

    private static void constants(Class<?> face) throws ReflectiveOperationException {
        TreeSet<String> got = new TreeSet<>();
        for (Field field : face.getDeclaredFields()) {
            if (!Modifier.isPrivate(field.getModifiers()) && !field.isSynthetic()) {
                got.add(field.getType() + " " + field.getName() + "=" + field.getInt(null));
                Check.same(field.getName(), field.getModifiers(), Modifier.PUBLIC | Modifier.STATIC | Modifier.FINAL);
            }
        }
        Check.same("constants", got.toString(),
                "[int DISMISSED=2, int EXCLUDED=2, int MOOT=3, int NONE=-1, int OPEN=0, int PAPERS=0, "
                        + "int QUALITY=1, int UPHELD=1]");
    }

    private static void methods(Class<?> face) {
        TreeSet<String> got = new TreeSet<>();
        for (Method method : face.getDeclaredMethods()) {
            if (!Modifier.isPrivate(method.getModifiers()) && !method.isSynthetic()) {
                got.add(signature(method));
            }
        }
        Check.same("methods", got, new TreeSet<>(List.of(METHODS)));
    }

    private static String signature(Method method) {
        StringBuilder text = new StringBuilder();
        text.append(method.getReturnType()).append(' ').append(method.getName()).append('(');
        Class<?>[] types = method.getParameterTypes();
        for (int i = 0; i < types.length; i++) {
            text.append(i > 0 ? "," : "").append(types[i]);
        }
        text.append(')');
        for (Class<?> thrown : method.getExceptionTypes()) {
            text.append(' ').append(thrown.getSimpleName());
        }
        return text.toString();
    }
}
