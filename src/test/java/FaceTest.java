import java.lang.reflect.Constructor;
import java.lang.reflect.Field;
import java.lang.reflect.Method;
import java.lang.reflect.Modifier;
import java.util.ArrayList;
import java.util.Collections;
import java.util.List;

/** The public face: what the document prints, and nothing else that can be seen from outside. */
public final class FaceTest {
    private FaceTest() {
    }

    private static final String[] FACE = {
        "int feed(int, int, int, int, int) IllegalStateException",
        "int trim(int) IllegalArgumentException",
        "int map()",
        "int openAt(int, int) IndexOutOfBoundsException IllegalStateException",
        "int cell(int, int, int) IndexOutOfBoundsException",
        "int come(int, int, int, int, int) IndexOutOfBoundsException IllegalArgumentException IllegalStateException",
        "int order(int, int, int, int) IndexOutOfBoundsException IllegalArgumentException IllegalStateException",
        "int clear(int) IndexOutOfBoundsException",
        "int team(int, int) IndexOutOfBoundsException",
        "int heard(int, int) IndexOutOfBoundsException",
        "int pass(int) IllegalArgumentException",
        "int count(int) IndexOutOfBoundsException",
        "int way(int, int, int, int) IndexOutOfBoundsException",
        "int reach(int, int, int) IndexOutOfBoundsException",
        "int target(int) IndexOutOfBoundsException",
        "int foresee(int, int) IllegalArgumentException IndexOutOfBoundsException",
        "int falls(int, int) IndexOutOfBoundsException",
        "int lasts(int) IndexOutOfBoundsException",
        "int advise(int, int) IndexOutOfBoundsException IllegalArgumentException",
        "int draw()",
        "int byteAt(int) IndexOutOfBoundsException",
        "double share()",
        "long digest()",
    };

    public static void main(String[] args) {
        List<String> got = new ArrayList<>();
        List<String> want = new ArrayList<>(List.of(FACE));
        for (Method method : SapperWar.class.getDeclaredMethods()) {
            if (!Modifier.isPrivate(method.getModifiers())) {
                got.add(signature(method));
            } else {
                for (String line : FACE) {
                    if (line.split("[ (]")[1].equals(method.getName())) {
                        Check.wrong("a private method bears a public one's name: " + method);
                    }
                }
            }
        }
        Collections.sort(got);
        Collections.sort(want);
        if (!got.equals(want)) {
            Check.wrong("the face is " + got + ", due is " + want);
        }
        for (Field field : SapperWar.class.getDeclaredFields()) {
            if (!Modifier.isPrivate(field.getModifiers())) {
                Check.wrong("a field that can be seen: " + field);
            }
        }
        Constructor<?>[] constructors = SapperWar.class.getDeclaredConstructors();
        Check.due("constructors", constructors.length, 1);
        Check.due("parameters", constructors[0].getParameterCount(), 0);
        Check.due("public constructor", constructors[0].getModifiers(), Modifier.PUBLIC);
        Check.due("public and final", SapperWar.class.getModifiers(), Modifier.PUBLIC | Modifier.FINAL);
        Check.end();
    }

    private static String signature(Method method) {
        StringBuilder text = new StringBuilder();
        text.append(method.getReturnType().getName()).append(' ').append(method.getName()).append('(');
        for (int i = 0; i < method.getParameterCount(); i++) {
            text.append(i == 0 ? "" : ", ").append(method.getParameterTypes()[i].getName());
        }
        text.append(')');
        for (Class<?> thrown : method.getExceptionTypes()) {
            text.append(' ').append(thrown.getSimpleName());
        }
        return text.toString();
    }
}
