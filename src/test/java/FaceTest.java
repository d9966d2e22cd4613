import java.lang.reflect.Constructor;
import java.lang.reflect.Field;
import java.lang.reflect.Method;
import java.lang.reflect.Modifier;
import java.util.Arrays;
import java.util.TreeSet;

/** The public face: the constants, the constructor and the methods of the document, and nothing besides. */
final class FaceTest {
    private static final String[] METHODS = {
        "int access(int,int) IndexOutOfBoundsException IllegalArgumentException",
        "int stream(int,int,int,int) IndexOutOfBoundsException IllegalArgumentException",
        "int flush(int) IndexOutOfBoundsException",
        "int moveWay()",
        "int giveWay(int,int) IndexOutOfBoundsException",
        "int setLeast(int,int) IndexOutOfBoundsException IllegalArgumentException",
        "int setEpoch(int) IllegalArgumentException",
        "int halveGains()",
        "int appendText(int) IllegalArgumentException IllegalStateException",
        "int clearText()",
        "int errorPosition()",
        "int runText() IllegalStateException",
        "int undo() IllegalStateException",
        "int save(int) IndexOutOfBoundsException",
        "int restore(int) IndexOutOfBoundsException IllegalStateException",
        "int owner(int) IndexOutOfBoundsException",
        "int waysOf(int) IndexOutOfBoundsException",
        "int line(int,int) IndexOutOfBoundsException",
        "int lines(int,boolean) IndexOutOfBoundsException",
        "int ifAccessed(int,int) IndexOutOfBoundsException IllegalArgumentException",
        "int victim(int,int) IndexOutOfBoundsException IllegalArgumentException",
        "int gain(int,int) IndexOutOfBoundsException",
        "int utility(int,int) IndexOutOfBoundsException IllegalArgumentException",
        "int monitored(int,int,int) IndexOutOfBoundsException",
        "int target(int) IndexOutOfBoundsException",
        "int movesLeft()",
        "int totalUtility()",
        "int count(int,int) IndexOutOfBoundsException IllegalArgumentException",
        "int accesses()",
        "double hitRate(int) IndexOutOfBoundsException",
        "int savedStates()",
        "int textLength()",
    };

    public static void main(String[] args) {
        constants();
        methods();
        constructor();
        Checks.end("FaceTest");
    }

    private static void constants() {
        Checks.due("NONE", PartitionedCache.NONE, -1);
        Checks.due("MISS", PartitionedCache.MISS, 0);
        Checks.due("HIT", PartitionedCache.HIT, 1);
        Checks.due("BYPASS", PartitionedCache.BYPASS, 2);
        TreeSet<String> names = new TreeSet<>();
        for (Field field : PartitionedCache.class.getDeclaredFields()) {
            if (!Modifier.isPrivate(field.getModifiers())) {
                names.add(Modifier.toString(field.getModifiers()) + " " + field.getType() + " " + field.getName());
            }
        }
        Checks.due("the visible fields", names.toString(), "[public static final int BYPASS, "
                + "public static final int HIT, public static final int MISS, public static final int NONE]");
    }

    private static void methods() {
        TreeSet<String> visible = new TreeSet<>();
        TreeSet<String> names = new TreeSet<>();
        for (Method method : PartitionedCache.class.getDeclaredMethods()) {
            if (!Modifier.isPrivate(method.getModifiers()) && !method.isSynthetic()) {
                visible.add(faceOf(method));
                names.add(method.getName());
            }
        }
        Checks.due("the visible methods", visible, new TreeSet<>(Arrays.asList(METHODS)));
        for (Method method : PartitionedCache.class.getDeclaredMethods()) {
            if (Modifier.isPrivate(method.getModifiers())) {
                Checks.due(method.getName() + " is a private method's name and a public one's",
                        names.contains(method.getName()), false);
            }
        }
    }

    private static String faceOf(Method method) {
        StringBuilder face = new StringBuilder();
        face.append(method.getReturnType().getName()).append(' ').append(method.getName()).append('(');
        for (Class<?> type : method.getParameterTypes()) {
            face.append(face.charAt(face.length() - 1) == '(' ? "" : ",").append(type.getName());
        }
        face.append(')');
        for (Class<?> type : method.getExceptionTypes()) {
            face.append(' ').append(type.getSimpleName());
        }
        return face.toString();
    }

    private static void constructor() {
        Constructor<?>[] constructors = PartitionedCache.class.getDeclaredConstructors();
        Checks.due("the number of constructors", constructors.length, 1);
        Checks.due("the constructor's parameters", constructors[0].getParameterCount(), 0);
        Checks.due("the class is public and final", PartitionedCache.class.getModifiers(),
                Modifier.PUBLIC | Modifier.FINAL);
    }
}
