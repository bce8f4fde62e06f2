import java.lang.reflect.Constructor;
import java.lang.reflect.Field;
import java.lang.reflect.Member;
import java.lang.reflect.Method;
import java.lang.reflect.Modifier;
import java.util.ArrayList;
import java.util.Arrays;
import java.util.HashSet;
import java.util.List;
import java.util.Set;

/** The face is that of the document and nothing more, and no method inside bears a name of it. */
public final class FaceTest {
    private static final Check CHECK = new Check("FaceTest");
    private static final String INDEX = " IndexOutOfBoundsException";
    private static final String ARGUMENT = " IllegalArgumentException";
    private static final String STATE = " IllegalStateException";
    private static final String ELEMENT = " NoSuchElementException";

    private static final List<String> DUE = List.of(
            "int type(char)" + ARGUMENT + STATE,
            "int clear()",
            "int addStem(int, char, int, int, boolean)" + INDEX + ARGUMENT + STATE,
            "int addEnding(int, char, int)" + INDEX + ARGUMENT + STATE,
            "int addJoint(int, char, char, char, char)" + INDEX + ARGUMENT + STATE,
            "int addRule(int, char, char, char, boolean, int)" + INDEX + ARGUMENT + STATE,
            "int setRule(int, int, int, int, int)" + INDEX + ARGUMENT,
            "int addTransfer(int, int, int, int)" + INDEX + ARGUMENT + STATE,
            "int turnRole(int, int, int)" + INDEX + ARGUMENT,
            "int write(int, int, int)" + INDEX + ELEMENT,
            "int begin(int)" + INDEX,
            "int addWord()" + ARGUMENT + STATE,
            "int insertWord(int)" + INDEX + ARGUMENT + STATE,
            "int setWord(int)" + INDEX + ARGUMENT,
            "int removeWord(int)" + INDEX,
            "int words()",
            "int analyses(int)" + INDEX,
            "int items(int, int)" + INDEX,
            "long readings(int, int, char)" + INDEX + ARGUMENT,
            "int weight(int, int, char)" + INDEX + ARGUMENT + ELEMENT,
            "int features(int, int, char)" + INDEX + ARGUMENT + ELEMENT,
            "int writeMeaning(int, int, char)" + INDEX + ARGUMENT + ELEMENT,
            "char charAt(int)" + INDEX,
            "char translate()" + STATE,
            "int writeTransferred()" + ELEMENT,
            "int pieces()",
            "int copied()",
            "int reasons()",
            "char reason(int)" + INDEX,
            "int reasonMeaning(int)" + INDEX,
            "char back()" + STATE,
            "int found()",
            "int translations()",
            "float wholeShare() ArithmeticException",
            "double meanPieces() ArithmeticException",
            "boolean isSound()");

    public static void main(String[] args) {
        Class<?> face = PhraseFerry.class;
        CHECK.is("the class is public and final", Modifier.toString(face.getModifiers()), "public final");
        CHECK.is("it stands alone", face.getSuperclass(), Object.class);
        CHECK.is("it has no interfaces", face.getInterfaces().length, 0);
        constructors(face);
        methods(face);
        fields(face);
        inside(face);
        CHECK.end();
    }

    private static boolean isHidden(Member member) {
        return Modifier.isPrivate(member.getModifiers()) || member.isSynthetic();
    }

    private static void constructors(Class<?> face) {
        Constructor<?>[] constructors = face.getDeclaredConstructors();
        CHECK.is("one constructor", constructors.length, 1);
        CHECK.is("it is public", constructors[0].toString(), "public PhraseFerry()");
    }

    private static void methods(Class<?> face) {
        Set<String> shown = new HashSet<>();
        for (Method method : face.getDeclaredMethods()) {
            if (!isHidden(method)) {
                CHECK.is(method + " is public", Modifier.toString(method.getModifiers()), "public");
                shown.add(told(method));
            }
        }
        CHECK.is("the methods", shown, new HashSet<>(DUE));
    }

    private static String told(Method method) {
        List<String> parameters = Arrays.stream(method.getParameterTypes()).map(Class::getSimpleName).toList();
        StringBuilder out = new StringBuilder(method.getReturnType() + " " + method.getName());
        out.append('(').append(String.join(", ", parameters)).append(')');
        for (Class<?> thrown : method.getExceptionTypes()) {
            out.append(' ').append(thrown.getSimpleName());
        }
        return out.toString();
    }

    private static void fields(Class<?> face) {
        List<String> shown = new ArrayList<>();
        for (Field field : face.getDeclaredFields()) {
            if (!isHidden(field)) {
                shown.add(field.getName());
            }
        }
        CHECK.is("no field is shown", shown, List.of());
    }

    private static void inside(Class<?> face) {
        Set<String> names = new HashSet<>();
        for (String due : DUE) {
            names.add(due.substring(due.indexOf(' ') + 1, due.indexOf('(')));
        }
        for (Method method : face.getDeclaredMethods()) {
            boolean isOverload = isHidden(method) && names.contains(method.getName());
            CHECK.is(method + " has a name of its own", isOverload, false);
            CHECK.is(method + " has few parameters", method.getParameterCount() <= 7, true);
        }
        for (Class<?> own : face.getDeclaredClasses()) {
            CHECK.is(own + " is static", Modifier.isStatic(own.getModifiers()), true);
            CHECK.is(own + " is not shown", Modifier.isPublic(own.getModifiers()), false);
            for (Method method : own.getDeclaredMethods()) {
                CHECK.is(method + " has a name of its own", names.contains(method.getName()), false);
                CHECK.is(method + " has few parameters", method.getParameterCount() <= 7, true);
            }
        }
    }
}
