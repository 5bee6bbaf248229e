import java.lang.reflect.Constructor;
import java.lang.reflect.Field;
import java.lang.reflect.Method;
import java.lang.reflect.Modifier;
import java.util.Arrays;
import java.util.Set;
import java.util.TreeSet;
import java.util.stream.Collectors;

/** The public face, and that nothing but it can be seen. */
final class FaceTest {
    private static final Due due = new Due("FaceTest");

    public static void main(String[] args) {
        due.same("the class", Modifier.toString(RelayStakes.class.getModifiers()), "public final");
        constants();
        members();
        due.end();
    }

    private static void constants() {
        due.is("NONE", RelayStakes.NONE, -1);
        due.is("JOINED", RelayStakes.JOINED, 0);
        due.is("LEAVING", RelayStakes.LEAVING, 1);
        due.is("GONE", RelayStakes.GONE, 2);
        due.is("ON_WAY", RelayStakes.ON_WAY, 0);
        due.is("DELIVERED", RelayStakes.DELIVERED, 1);
        due.is("LOST", RelayStakes.LOST, 2);
    }

    private static void members() {
        String i = "IndexOutOfBoundsException";
        String a = "IllegalArgumentException";
        String s = "IllegalStateException";
        Set<String> want = new TreeSet<>(Arrays.asList(
            "int NONE", "int JOINED", "int LEAVING", "int GONE", "int ON_WAY", "int DELIVERED", "int LOST",
            "RelayStakes() []",
            "int node(int int int) [" + a + " " + s + "]",
            "boolean link(int int boolean) [" + i + " " + a + "]",
            "int price(int int) [" + i + " " + a + "]",
            "int put(int int) [" + i + " " + a + " " + s + "]",
            "int leave(int) [" + i + " " + s + "]",
            "int join(int int) [" + i + " " + a + " " + s + "]",
            "int send(int int) [" + i + " " + a + " " + s + "]",
            "int cost(int int) [" + i + " " + a + "]",
            "int lose(int int) [" + i + " " + a + "]",
            "int message(int int) [" + i + " " + a + "]",
            "int way(int int) [" + i + "]",
            "boolean wake(int) [" + i + "]",
            "int prove(int int) [" + i + " " + a + " " + s + "]",
            "int watcher() []",
            "int pass(int) [" + a + " " + s + "]",
            "int nodeIs(int int) [" + i + " " + a + "]",
            "int paidAnew(int) [" + i + "]",
            "int money() []"));
        Set<String> got = new TreeSet<>();
        Set<String> publicNames = new TreeSet<>();
        Set<String> privateNames = new TreeSet<>();
        for (Field field : RelayStakes.class.getDeclaredFields()) {
            if (!Modifier.isPrivate(field.getModifiers())) {
                got.add(field.getType().getSimpleName() + " " + field.getName());
            }
        }
        for (Constructor<?> made : RelayStakes.class.getDeclaredConstructors()) {
            got.add("RelayStakes" + names(made.getParameterTypes(), "(", ")") + names(made.getExceptionTypes(), " [", "]"));
        }
        for (Method method : RelayStakes.class.getDeclaredMethods()) {
            if (Modifier.isPrivate(method.getModifiers())) {
                privateNames.add(method.getName());
            } else {
                publicNames.add(method.getName());
                got.add(method.getReturnType().getSimpleName() + " " + method.getName()
                    + names(method.getParameterTypes(), "(", ")") + names(method.getExceptionTypes(), " [", "]"));
            }
        }
        due.same("the face", got.toString(), want.toString());
        privateNames.retainAll(publicNames);
        due.same("private methods with the name of a public one", privateNames.toString(), "[]");
    }

    private static String names(Class<?>[] types, String open, String close) {
        return Arrays.stream(types).map(Class::getSimpleName).collect(Collectors.joining(" ", open, close));
    }
}
