import java.lang.reflect.Constructor;
import java.lang.reflect.Field;
import java.lang.reflect.Member;
import java.lang.reflect.Method;
import java.lang.reflect.Modifier;
import java.util.Arrays;
import java.util.TreeSet;
import java.util.stream.Collectors;

/** The class shows the document's face, and nothing else. */
public final class FaceTest {
    private static final String INDEX = " IndexOutOfBoundsException";
    private static final String ARGUMENT = " IllegalArgumentException";
    private static final String STATE = " IllegalStateException";
    private static final String[] METHODS = {
        "int setAnchor(int,int)" + ARGUMENT,
        "int set(int,int)" + INDEX + ARGUMENT,
        "int setTolerance(int)" + ARGUMENT,
        "int insert(int,int,int)" + INDEX + ARGUMENT + STATE,
        "int move(int,int,int)" + INDEX + ARGUMENT,
        "int remove(int)" + INDEX,
        "int setSlip(int,int)" + INDEX + ARGUMENT,
        "int run(int,boolean)" + INDEX + STATE,
        "int runAll()",
        "int forget()",
        "int append(int)" + ARGUMENT + STATE,
        "int clearBuffer()",
        "int firstError()",
        "int load()" + ARGUMENT,
        "int undo()" + STATE,
        "int reason()",
        "long corner(int,int)" + INDEX + ARGUMENT,
        "long made(int,int)" + INDEX + ARGUMENT,
        "long elbow(int,int,int)" + ARGUMENT,
        "long count(int)" + ARGUMENT,
        "int setting(int)" + INDEX,
        "int why(int,boolean)" + INDEX,
        "long ifSet(int,boolean,int,int)" + INDEX + ARGUMENT,
        "int leastArm()",
        "double error()",
        "long digest()",
    };

    private FaceTest() {
    }

    public static void main(String[] args) {
        Class<?> face = PolarPlanimeter.class;
        Check.same("the class's modifiers", "public final", Modifier.toString(face.getModifiers()));
        TreeSet<String> shown = new TreeSet<>();
        for (Method method : face.getDeclaredMethods()) {
            if (isShown(method)) {
                shown.add(told(method));
                Check.due(method.getName() + " is public and of an object", Modifier.PUBLIC, method.getModifiers());
            }
        }
        Check.same("the methods", new TreeSet<>(Arrays.asList(METHODS)).toString(), shown.toString());
        String fields = Arrays.stream(face.getDeclaredFields()).filter(FaceTest::isShown)
                .map(Field::toString).collect(Collectors.joining("; "));
        Check.same("the constants", "public static final int PolarPlanimeter.NONE", fields);
        String constructors = Arrays.stream(face.getDeclaredConstructors()).filter(FaceTest::isShown)
                .map(Constructor::toString).collect(Collectors.joining("; "));
        Check.same("the constructors", "public PolarPlanimeter()", constructors);
        Check.due("NONE", -1, PolarPlanimeter.NONE);
        Check.end();
    }

    private static boolean isShown(Member member) {
        return !Modifier.isPrivate(member.getModifiers()) && !member.isSynthetic();
    }

    private static String told(Method method) {
        String parameters = Arrays.stream(method.getParameterTypes()).map(Class::getSimpleName)
                .collect(Collectors.joining(","));
        String exceptions = Arrays.stream(method.getExceptionTypes()).map(kind -> " " + kind.getSimpleName())
                .collect(Collectors.joining());
        return method.getReturnType().getSimpleName() + " " + method.getName() + "(" + parameters + ")" + exceptions;
    }
}
