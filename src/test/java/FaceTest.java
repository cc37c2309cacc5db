import java.lang.reflect.Constructor;
import java.lang.reflect.Field;
import java.lang.reflect.Method;
import java.lang.reflect.Modifier;
import java.util.Set;
import java.util.TreeSet;

/** The public face: the class, its constants, its constructor and every method, and nothing else. */
public final class FaceTest {
    private static final String I = "IndexOutOfBoundsException";
    private static final String A = "IllegalArgumentException";
    private static final String S = "IllegalStateException";

    private static final String[] METHODS = {
        "int hide(int) " + A + " " + S,
        "int fault(int int int) " + I,
        "int cut(int int int int int boolean) " + I + " " + A + " " + S,
        "int find(int int int boolean int) " + I + " " + A,
        "int skive(int int) " + I + " " + A + " " + S,
        "int pierce(int int) " + I + " " + A + " " + S,
        "boolean match(int int) " + I,
        "int part(int int) " + I + " " + A,
        "int buckle(int int int int) " + I + " " + A + " " + S,
        "int unbuckle(int) " + I + " " + S,
        "int bears(int int int int) " + I + " " + A,
        "int way(int int int) " + I + " " + A,
        "int pull(int int int) " + I + " " + A + " " + S,
        "int holds(int int) " + I + " " + A,
        "int oil(int) " + I,
        "int sew(int int int int) " + I + " " + A + " " + S,
        "int back(int int int) " + I + " " + A,
        "int tree(int int int) " + I + " " + A,
        "int flock(int int int) " + I + " " + A,
        "int sinks(int int int) " + I + " " + A,
        "int sinksAnew(int int int) " + I + " " + A,
        "int pressure(int int int int) " + I + " " + A,
        "int bridges(int int int) " + I + " " + A,
        "int ride(int int int int int int) " + I + " " + A + " " + S,
        "int rest(int) " + A,
        "int sore(int int int) " + I + " " + A,
        "int share(int int int int) " + I + " " + A,
        "int cause(int int int) " + I + " " + A,
        "int rides()",
    };

    public static void main(String[] args) {
        Due.same("the class", Modifier.toString(Saddletree.class.getModifiers()), "public final");
        Due.same("the constants", Saddletree.NONE + " " + Saddletree.BY_SADDLE + " " + Saddletree.BY_RIDER + " "
                + Saddletree.BY_GAIT, "-1 0 1 2");
        Due.same("the methods", methods(), new TreeSet<>(Set.of(METHODS)));
        Due.same("the fields", fields(), new TreeSet<>(Set.of("NONE", "BY_SADDLE", "BY_RIDER", "BY_GAIT")));
        Constructor<?>[] constructors = Saddletree.class.getDeclaredConstructors();
        Due.same("how many constructors", constructors.length, 1);
        Due.same("the constructor", constructors[0].toString(), "public Saddletree()");
        Due.end();
    }

    private static Set<String> methods() {
        Set<String> found = new TreeSet<>();
        for (Method method : Saddletree.class.getDeclaredMethods()) {
            if (!Modifier.isPrivate(method.getModifiers()) && !method.isSynthetic()) {
                found.add((method.getReturnType() + " " + method.getName() + "(" + names(method.getParameterTypes())
                        + ") " + names(method.getExceptionTypes())).trim());
            }
        }
        return found;
    }

    private static Set<String> fields() {
        Set<String> found = new TreeSet<>();
        for (Field field : Saddletree.class.getDeclaredFields()) {
            if (!Modifier.isPrivate(field.getModifiers()) && !field.isSynthetic()) {
                found.add(field.getName());
            }
        }
        return found;
    }

    private static String names(Class<?>[] types) {
        StringBuilder names = new StringBuilder();
        for (Class<?> type : types) {
            names.append(names.length() == 0 ? "" : " ").append(type.getSimpleName());
        }
        return names.toString();
    }
}
