import java.lang.reflect.Constructor;
import java.lang.reflect.Field;
import java.lang.reflect.Member;
import java.lang.reflect.Method;
import java.lang.reflect.Modifier;
import java.util.Arrays;
import java.util.Set;
import java.util.TreeSet;

/** The face of the class is the document's, and nothing else shows. */
public final class FaceTest {
    private static final String I = "IllegalArgumentException";
    private static final String N = "NoSuchElementException";
    private static final String[] FACE = {
        "int feed 5", "int court 1 " + I, "int law 1 " + I, "int work 1 " + I, "int book 1 " + I,
        "int fault 0", "int undo 0", "int told 1 " + I, "int lean 0",
        "int saying 2 " + N + " " + I, "int bird 2 " + N + " " + I, "int counsel 2 " + N + " " + I,
        "int would 6 " + I, "int at 2 " + I, "int clear 0", "int hide 2 " + I, "int follows 1 " + I,
        "int proof 1 " + N, "int turn 0", "int fits 1 " + I, "int look 1 " + I, "long kind 4 " + I,
        "int order 3 " + I, "int loaf 3 " + N + " " + I, "int loss 1 " + I, "int next 1 " + I,
        "int side 2 " + I, "int leaders 2 " + N + " " + I, "int used 0", "int over 1 " + N,
        "int delay 1 " + N, "int point 2 " + I, "int purse 1 " + I, "int pairs 0", "int crowd 1 " + I,
        "int swing 1 " + N, "int when 1 " + I, "int term 4 " + I, "int span 6 " + I,
        "int image 0", "int restore 0", "int status 1", "int count 1",
    };

    private static String line(Method method) {
        StringBuilder line = new StringBuilder();
        line.append(method.getReturnType().getName()).append(' ').append(method.getName()).append(' ');
        line.append(method.getParameterCount());
        for (Class<?> type : method.getParameterTypes()) {
            line.append(type == int.class ? "" : " with a parameter that is no int");
        }
        for (Class<?> thrown : method.getExceptionTypes()) {
            line.append(' ').append(thrown.getSimpleName());
        }
        return line.toString();
    }

    private static boolean shows(Member member) {
        return !Modifier.isPrivate(member.getModifiers());
    }

    public static void main(String[] args) throws ReflectiveOperationException {
        Check check = new Check();
        Class<?> face = CourtMoorhens.class;
        Set<String> due = new TreeSet<>(Arrays.asList(FACE));
        Set<String> got = new TreeSet<>();
        Set<String> publicNames = new TreeSet<>();
        for (Method method : face.getDeclaredMethods()) {
            if (shows(method)) {
                got.add(line(method));
                publicNames.add(method.getName());
                check.same(method.getName() + " is public", Modifier.isPublic(method.getModifiers()) ? 1 : 0, 1);
            }
        }
        for (Method method : face.getDeclaredMethods()) {
            if (!shows(method)) {
                check.same(method.getName() + " bears a public name", publicNames.contains(method.getName()) ? 1 : 0, 0);
            }
        }
        System.out.print(got.equals(due) ? "" : "the face is " + got + "\nand should be " + due + "\n");
        check.same("the methods are the document's", got.equals(due) ? 1 : 0, 1);
        for (Field field : face.getDeclaredFields()) {
            check.same("field " + field.getName() + " shows", shows(field) ? 1 : 0, field.getName().equals("NONE") ? 1 : 0);
        }
        Field none = face.getField("NONE");
        check.same("NONE", none.getInt(null), -1);
        check.same("NONE is static and final", none.getModifiers(), Modifier.PUBLIC | Modifier.STATIC | Modifier.FINAL);
        check.same("the class is final", face.getModifiers(), Modifier.PUBLIC | Modifier.FINAL);
        Constructor<?>[] constructors = face.getDeclaredConstructors();
        check.same("constructors", constructors.length, 1);
        check.same("the constructor is public", constructors[0].getModifiers(), Modifier.PUBLIC);
        check.same("the constructor's parameters", constructors[0].getParameterCount(), 0);
        check.end("FaceTest");
    }
}
