import java.lang.reflect.Constructor;
import java.lang.reflect.Field;
import java.lang.reflect.Method;
import java.lang.reflect.Modifier;
import java.util.Map;
import java.util.Set;
import java.util.TreeMap;
import java.util.TreeSet;

/** The public face is the document's, and nothing else of the class is to be seen. */
public final class FaceTest {
    private static final Set<String> METHODS = Set.of("int store(int,int)", "int storeLong(int,long)",
        "int word(int)", "long wordLong(int)", "int order(int,int,int,boolean)", "long top()", "long rest()",
        "int set(long,long)", "long multiplier()", "int punch(long,int)", "int rewind()", "int text(int)",
        "int tear()", "int load()", "int loaded()", "int start(int)", "int run(int)", "int why()",
        "int mark(int,boolean)", "int back()", "int done(int)", "int reach(int)", "int reached(int)",
        "int alters()", "int image()", "int recall()", "int count(int)");
    private static final Map<String, Integer> CONSTANTS =
        Map.of("NONE", -1, "UNKNOWN", -2, "OUTSIDE", -3, "NOT", -4, "FULL", -5);

    public static void main(String[] args) throws ReflectiveOperationException {
        Class<?> face = TapeEngine.class;
        same("modifiers", Modifier.toString(face.getModifiers()), "public final");
        Set<String> methods = new TreeSet<>();
        for (Method m : face.getDeclaredMethods()) {
            if (!Modifier.isPrivate(m.getModifiers()) && !m.isSynthetic()) {
                methods.add(told(m));
            }
        }
        same("methods", methods.toString(), new TreeSet<>(METHODS).toString());
        Map<String, Integer> constants = new TreeMap<>();
        for (Field f : face.getDeclaredFields()) {
            if (!Modifier.isPrivate(f.getModifiers())) {
                same(f.getName(), Modifier.toString(f.getModifiers()), "public static final");
                constants.put(f.getName(), f.getInt(null));
            }
        }
        same("constants", constants.toString(), new TreeMap<>(CONSTANTS).toString());
        Constructor<?>[] made = face.getDeclaredConstructors();
        same("constructors", made.length + " " + made[0], "1 public TapeEngine()");
        for (Class<?> inside : face.getDeclaredClasses()) {
            same(inside.getName() + " is static", "" + Modifier.isStatic(inside.getModifiers()), "true");
        }
        Check.ending();
    }

    private static String told(Method m) {
        StringBuilder told = new StringBuilder(m.getReturnType() + " " + m.getName() + "(");
        String comma = "";
        for (Class<?> type : m.getParameterTypes()) {
            told.append(comma).append(type);
            comma = ",";
        }
        return told.append(")").toString();
    }

    private static void same(String what, String got, String want) {
        if (!got.equals(want)) {
            System.out.println(what + ": " + got + ", due is " + want);
        }
        Check.due(what, got.equals(want) ? 1 : 0, 1);
    }
}
