import java.lang.reflect.Member;
import java.lang.reflect.Method;
import java.lang.reflect.Modifier;
import java.util.Arrays;
import java.util.Set;
import java.util.TreeSet;

/** The class shows the document's face and nothing beside it (LANGUAGE.md, rule 1). */
public final class FaceTest {
    private static final String[] FACE = {
        "processors() int", "read(int,long,int) long", "write(int,long,int,long) void",
        "signal(int,boolean) void", "come(int) boolean", "room() int", "pass(long) void",
        "line(int,int) boolean", "sent() long", "out(long) int",
    };

    public static void main(String[] args) {
        Class<?> face = SignalBoard.class;
        int shown = Modifier.PUBLIC | Modifier.FINAL;
        Checks.same("public and final", face.getModifiers() & shown, shown);

        Set<String> found = new TreeSet<>();
        for (Method m : face.getDeclaredMethods()) {
            if (!isPrivate(m)) {
                found.add(described(m));
                Checks.same(m + " is public and no static one", m.getModifiers(), Modifier.PUBLIC);
            }
        }
        Set<String> due = new TreeSet<>(Arrays.asList(FACE));
        Checks.same("methods " + found, found.equals(due), true);

        Checks.same("constructors", face.getDeclaredConstructors().length, 1);
        Checks.same("constructor", face.getConstructors()[0].toString().equals("public SignalBoard(int)"), true);
        Checks.same("shown fields", Arrays.stream(face.getDeclaredFields()).filter(f -> !isPrivate(f)).count(), 0);
        Checks.end();
    }

    private static boolean isPrivate(Member m) {
        return Modifier.isPrivate(m.getModifiers());
    }

    private static String described(Method m) {
        StringBuilder text = new StringBuilder(m.getName()).append('(');
        for (Class<?> p : m.getParameterTypes()) {
            text.append(text.charAt(text.length() - 1) == '(' ? "" : ",").append(p.getSimpleName());
        }
        return text.append(") ").append(m.getReturnType().getSimpleName()).toString();
    }
}
