import java.lang.reflect.Constructor;
import java.lang.reflect.Field;
import java.lang.reflect.Method;
import java.lang.reflect.Modifier;
import java.util.ArrayList;
import java.util.Arrays;
import java.util.Collections;
import java.util.List;

/** The class has the document's face, and nothing else of it can be seen from outside. */
public final class FaceTest {
    private static final String INDEX = Checks.INDEX;
    private static final String ARGUMENT = Checks.ARGUMENT;
    private static final String STATE = Checks.STATE;

    private static final List<String> FACE = List.of(
        "int deal(int) " + ARGUMENT,
        "int phase()",
        "int onTurn()",
        "int bid(int) " + ARGUMENT + " " + STATE,
        "int hold() " + STATE,
        "int pass() " + STATE,
        "int latestBid()",
        "int nextBid(int) " + ARGUMENT,
        "int declarer()",
        "long takeSkat() " + STATE,
        "int putAway(int, int) " + INDEX + " " + ARGUMENT + " " + STATE,
        "int announce(int, int) " + ARGUMENT + " " + STATE,
        "int contract()",
        "int matadors(int, int) " + INDEX + " " + ARGUMENT,
        "long playable() " + STATE,
        "int play(int) " + INDEX + " " + STATE,
        "long hand(int) " + INDEX,
        "int inTrick(int) " + ARGUMENT,
        "int points(int) " + INDEX,
        "int tricks(int) " + INDEX,
        "int value() " + STATE,
        "int score(int) " + INDEX);

    public static void main(String[] args) {
        Checks checks = new Checks();
        checks.same("the class", Modifier.toString(SkatMill.class.getModifiers()), "public final");
        checks.same("the methods", sorted(methods()), sorted(FACE));
        Constructor<?>[] constructors = SkatMill.class.getDeclaredConstructors();
        checks.equal("the number of constructors", constructors.length, 1);
        checks.same("the constructor", constructors[0].toString(), "public SkatMill()");
        for (Field field : SkatMill.class.getDeclaredFields()) {
            boolean isPrivate = Modifier.isPrivate(field.getModifiers());
            checks.equal("field " + field.getName() + " is private", isPrivate ? 1 : 0, 1);
        }
        checks.end("FaceTest");
    }

    private static List<String> methods() {
        List<String> found = new ArrayList<>();
        for (Method method : SkatMill.class.getDeclaredMethods()) {
            if (Modifier.isPrivate(method.getModifiers()) || method.isSynthetic()) {
                continue;
            }
            StringBuilder line = new StringBuilder();
            line.append(method.getReturnType()).append(' ').append(method.getName());
            line.append(Arrays.toString(method.getParameterTypes()).replace('[', '(').replace(']', ')'));
            for (Class<?> thrown : method.getExceptionTypes()) {
                line.append(' ').append(thrown.getSimpleName());
            }
            found.add(line.toString());
        }
        return found;
    }

    private static String sorted(List<String> lines) {
        List<String> copy = new ArrayList<>(lines);
        Collections.sort(copy);
        return String.join("\n", copy);
    }
}
