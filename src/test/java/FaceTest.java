import java.lang.reflect.Constructor;
import java.lang.reflect.Field;
import java.lang.reflect.Member;
import java.lang.reflect.Method;
import java.lang.reflect.Modifier;
import java.util.Set;
import java.util.TreeSet;

/** The public face has what the document lists, and nothing more that can be seen from outside. */
public final class FaceTest {
    public static void main(String[] args) {
        Set<String> want = new TreeSet<>(Set.of(
            "int node()", "int event(int,int,boolean)", "int counter(int,boolean)", "int state(int)",
            "int recover(int,int)", "int flag(int)", "int manager(int,long)", "int shot(int,boolean)",
            "int listen(int,boolean)", "int two(int,int,int)", "int suspended(int)"));
        Set<String> got = new TreeSet<>();
        for (Method method : CanErrors.class.getDeclaredMethods()) {
            if (isSeen(method)) {
                got.add(signature(method));
            }
        }
        Check.due("methods " + got + " are those of the document", got.equals(want) ? 1 : 0, 1);
        Check.due("class is public and final", CanErrors.class.getModifiers(), Modifier.PUBLIC | Modifier.FINAL);
        for (Field field : CanErrors.class.getDeclaredFields()) {
            Check.due("field " + field.getName() + " is private", isSeen(field) ? 1 : 0, 0);
        }
        Constructor<?>[] constructors = CanErrors.class.getDeclaredConstructors();
        Check.due("constructors", constructors.length, 1);
        Check.due("constructor is public", constructors[0].getModifiers(), Modifier.PUBLIC);
        Check.due("constructor's parameters", constructors[0].getParameterCount(), 0);
        Check.finish();
    }

    private static boolean isSeen(Member member) {
        return !Modifier.isPrivate(member.getModifiers()) && !member.isSynthetic();
    }

    private static String signature(Method method) {
        StringBuilder text = new StringBuilder();
        text.append(method.getReturnType().getName()).append(' ').append(method.getName()).append('(');
        String between = "";
        for (Class<?> type : method.getParameterTypes()) {
            text.append(between).append(type.getName());
            between = ",";
        }
        return text.append(')').toString();
    }
}
