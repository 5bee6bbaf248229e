import java.io.IOException;
import java.lang.reflect.Constructor;
import java.lang.reflect.Field;
import java.lang.reflect.Member;
import java.lang.reflect.Method;
import java.lang.reflect.Modifier;
import java.nio.file.Files;
import java.nio.file.Path;
import java.util.Arrays;
import java.util.Set;
import java.util.TreeSet;
import java.util.stream.Collectors;

/** The public face, and that nothing but it can be seen. */
final class FaceTest {
    private static final Due due = new Due("FaceTest");

    public static void main(String[] args) throws IOException {
        due.same("the class", Modifier.toString(RelayStakes.class.getModifiers()), "public final");
        constants();
        members();
        asTheDocumentWritesIt(Files.readString(Path.of("src/main/java/RelayStakes.java")));
        due.end();
    }

    private static void constants() {
        due.is("NONE", RelayStakes.NONE, -1);
        due.is("JOINED", RelayStakes.JOINED, 0);
        due.is("LEAVING", RelayStakes.LEAVING, 1);
        due.is("GONE", RelayStakes.GONE, 2);
        due.is("ON_WAY", RelayStakes.ON_WAY, 0);
        due.is("DELIVERED", RelayStakes.DELIVERED, 1);
        due.is("LOST", RelayStakes.LOST, 2);
    }

    private static void members() {
        String i = "IndexOutOfBoundsException";
        String a = "IllegalArgumentException";
        String s = "IllegalStateException";
        Set<String> want = new TreeSet<>(Arrays.asList(
            "public static final int NONE",
            "public static final int JOINED", "public static final int LEAVING", "public static final int GONE",
            "public static final int ON_WAY", "public static final int DELIVERED", "public static final int LOST",
            "public RelayStakes() []",
            "public int node(int int int) [" + a + " " + s + "]",
            "public boolean link(int int boolean) [" + i + " " + a + "]",
            "public int price(int int) [" + i + " " + a + "]",
            "public int put(int int) [" + i + " " + a + " " + s + "]",
            "public int leave(int) [" + i + " " + s + "]",
            "public int join(int int) [" + i + " " + a + " " + s + "]",
            "public int send(int int) [" + i + " " + a + " " + s + "]",
            "public int cost(int int) [" + i + " " + a + "]",
            "public int lose(int int) [" + i + " " + a + "]",
            "public int message(int int) [" + i + " " + a + "]",
            "public int way(int int) [" + i + "]",
            "public boolean wake(int) [" + i + "]",
            "public int prove(int int) [" + i + " " + a + " " + s + "]",
            "public int watcher() []",
            "public int pass(int) [" + a + " " + s + "]",
            "public int nodeIs(int int) [" + i + " " + a + "]",
            "public int paidAnew(int) [" + i + "]",
            "public int money() []"));
        Set<String> got = new TreeSet<>();
        Set<String> publicNames = new TreeSet<>();
        Set<String> privateNames = new TreeSet<>();
        for (Field field : RelayStakes.class.getDeclaredFields()) {
            if (!Modifier.isPrivate(field.getModifiers())) {
                got.add(how(field) + field.getType().getSimpleName() + " " + field.getName());
            }
        }
        for (Constructor<?> made : RelayStakes.class.getDeclaredConstructors()) {
            got.add(how(made) + "RelayStakes" + names(made.getParameterTypes(), "(", ")") + names(made.getExceptionTypes(), " [", "]"));
        }
        for (Method method : RelayStakes.class.getDeclaredMethods()) {
            if (Modifier.isPrivate(method.getModifiers())) {
                privateNames.add(method.getName());
            } else {
                publicNames.add(method.getName());
                got.add(how(method) + method.getReturnType().getSimpleName() + " " + method.getName()
                    + names(method.getParameterTypes(), "(", ")") + names(method.getExceptionTypes(), " [", "]"));
            }
        }
        due.same("the face", got.toString(), want.toString());
        privateNames.retainAll(publicNames);
        due.same("private methods with the name of a public one", privateNames.toString(), "[]");
    }

    /** Each line of the document's face stands in the source, in its order, with the names of its parameters. */
    private static void asTheDocumentWritesIt(String source) {
        int from = 0;
        for (String line : new Document().face()) {
            String words = line.contains("(") ? line.replace(";", " {") : line;
            int at = line.equals("}") ? source.lastIndexOf("\n}") : source.indexOf(words, from);
            due.is("the source has, in its order: " + line, at >= from, true);
            from = Math.max(from, at);
        }
    }

    /** The tests are in the package of the class, so they would not tell a member that isn't public. */
    private static String how(Member member) {
        return Modifier.toString(member.getModifiers()) + " ";
    }

    private static String names(Class<?>[] types, String open, String close) {
        return Arrays.stream(types).map(Class::getSimpleName).collect(Collectors.joining(" ", open, close));
    }
}
