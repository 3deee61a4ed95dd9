import java.lang.reflect.Constructor;
import java.lang.reflect.Field;
import java.lang.reflect.Method;
import java.lang.reflect.Modifier;
import java.util.HashSet;
import java.util.Set;
import java.util.TreeSet;

/** The public face and nothing beside it, as the document and LANGUAGE.md's rules 1 and 5 say. */
public final class FaceTest {
    private static final String FACE = "int lay(int,int) int put(int,int,int) int putCounter(int,int,int) "
        + "boolean turn(int,int) int setHopper(int,int,int) int drop(int) int run(int,int) int emptyBins() "
        + "int columns() int rows() int partAt(int,int) boolean leadsRight(int,int) int countAt(int,int) "
        + "int binOf(int) int lost() int marblesIn(int) int columnOf(int) int toggles() int numberIn(int) "
        + "int wouldLand(int) int wouldBeIn(int,int) int wouldTurn(int) int lastLands(int,int) "
        + "int asBeforeIn(int) int wouldRun(int) int bestColumn() double meanInBins() long digest()";

    public static void main(String[] args) {
        face();
        members();
        insideClasses();
        Checks.end();
    }

    private static void face() {
        Set<String> want = new TreeSet<>();
        String[] words = FACE.split(" ");
        for (int i = 0; i < words.length; i += 2) {
            want.add(words[i] + " " + words[i + 1]);
        }
        Set<String> got = new TreeSet<>();
        for (Method method : MarbleRamps.class.getDeclaredMethods()) {
            if (!Modifier.isPrivate(method.getModifiers())) {
                got.add(signature(method));
                Checks.due("public and of the object: " + method, method.getModifiers(), Modifier.PUBLIC);
            }
        }
        Checks.due("the face", got, want);
    }

    private static String signature(Method method) {
        StringBuilder text = new StringBuilder(method.getReturnType() + " " + method.getName() + "(");
        for (Class<?> type : method.getParameterTypes()) {
            text.append(text.charAt(text.length() - 1) == '(' ? "" : ",").append(type);
        }
        return text.append(")").toString();
    }

    private static void members() {
        Checks.due("the class is public and final", MarbleRamps.class.getModifiers(), Modifier.PUBLIC | Modifier.FINAL);
        Constructor<?>[] constructors = MarbleRamps.class.getDeclaredConstructors();
        Checks.due("constructors", constructors.length, 1);
        Checks.due("the constructor is public", constructors[0].getModifiers(), Modifier.PUBLIC);
        for (Field field : MarbleRamps.class.getDeclaredFields()) {
            Checks.due("private: " + field, Modifier.isPrivate(field.getModifiers()), true);
            Checks.due("final: " + field, Modifier.isFinal(field.getModifiers()), true);
        }
    }

    private static void insideClasses() {
        Set<String> publicNames = new HashSet<>();
        for (Method method : MarbleRamps.class.getDeclaredMethods()) {
            if (!Modifier.isPrivate(method.getModifiers())) {
                publicNames.add(method.getName());
            }
        }
        for (Method method : MarbleRamps.class.getDeclaredMethods()) {
            Checks.due("a name apart from the public ones: " + method,
                Modifier.isPrivate(method.getModifiers()) && publicNames.contains(method.getName()), false);
        }
        for (Class<?> inside : MarbleRamps.class.getDeclaredClasses()) {
            Checks.due("static: " + inside, Modifier.isStatic(inside.getModifiers()), true);
            Checks.due("not public: " + inside, Modifier.isPublic(inside.getModifiers()), false);
            for (Method method : inside.getDeclaredMethods()) {
                Checks.due("a name apart from the public ones: " + method, publicNames.contains(method.getName()), false);
            }
        }
    }
}
