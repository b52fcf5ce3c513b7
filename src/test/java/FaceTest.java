import java.lang.reflect.Constructor;
import java.lang.reflect.Field;
import java.lang.reflect.Method;
import java.lang.reflect.Modifier;
import java.util.Arrays;
import java.util.TreeSet;

/** The public face is the document's, and nothing else of the class is open. */
public final class FaceTest {
    private static final String INDEX = " IndexOutOfBoundsException";
    private static final String ARGUMENT = " IllegalArgumentException";
    private static final String STATE = " IllegalStateException";

    public static void main(String[] args) {
        Class<?> face = GooseCodex.class;
        Due.due("the class", Modifier.toString(face.getModifiers()), "public final");
        Due.due("constructors", face.getDeclaredConstructors().length, 1);
        for (Constructor<?> constructor : face.getDeclaredConstructors()) {
            Due.due("a constructor", constructor.toString(), "public GooseCodex()");
        }
        Due.due("public methods", publicMethods(face), documented());
        openMembers(face);
        Due.end();
    }

    private static TreeSet<String> publicMethods(Class<?> face) {
        TreeSet<String> all = new TreeSet<>();
        for (Method method : face.getDeclaredMethods()) {
            if (Modifier.isPublic(method.getModifiers())) {
                StringBuilder text = new StringBuilder(method.getReturnType().getName());
                text.append(' ').append(method.getName());
                text.append(Arrays.toString(method.getParameterTypes()));
                for (Class<?> thrown : method.getExceptionTypes()) {
                    text.append(' ').append(thrown.getSimpleName());
                }
                all.add(text.toString());
            }
        }
        return all;
    }

    private static void openMembers(Class<?> face) {
        for (Method method : face.getDeclaredMethods()) {
            int m = method.getModifiers();
            boolean closed = Modifier.isPrivate(m) || Modifier.isPublic(m) || method.isSynthetic();
            Due.due("closed: " + method.getName(), closed, true);
        }
        for (Field field : face.getDeclaredFields()) {
            Due.due("private: " + field.getName(), Modifier.isPrivate(field.getModifiers()), true);
        }
    }

    private static TreeSet<String> documented() {
        TreeSet<String> all = new TreeSet<>();
        all.add("int addGate[int]" + ARGUMENT + STATE);
        all.add("int addGoose[int, int]" + INDEX + ARGUMENT + STATE);
        all.add("int arrive[int, int, int]" + ARGUMENT + STATE);
        all.add("int setRank[int, int]" + INDEX + ARGUMENT);
        all.add("int lead[int, int]" + INDEX);
        all.add("int giveCorns[int, int]" + INDEX + ARGUMENT);
        all.add("int bribe[int, int]" + INDEX + STATE);
        all.add("int passBeats[int]" + ARGUMENT);
        all.add("int hissOf[int, int]" + INDEX + ARGUMENT);
        all.add("int inFarmAfter[int]" + ARGUMENT);
        all.add("int firstBar[int, int]" + ARGUMENT);
        all.add("boolean isInFarm[int]" + INDEX);
        all.add("boolean dares[int]" + INDEX);
        all.add("double meanTemper[]");
        all.add("long digest[]");
        for (String name : new String[] {"beats", "gates", "geese", "visitors", "inFarm", "bribes",
            "retreats", "loudestGate"}) {
            all.add("int " + name + "[]");
        }
        for (String name : new String[] {"rankOf", "awakeAt", "gateOf", "temperOf", "calmFor",
            "eatenBy", "passedBy", "cornsOf", "nerveOf", "retreatOf", "hissAt", "gradeFor",
            "beatsUntilIn", "cornsWanted", "bestToBribe", "bribesWanted", "rankWanted"}) {
            all.add("int " + name + "[int]" + INDEX);
        }
        return all;
    }
}
