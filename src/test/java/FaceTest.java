import java.lang.reflect.Constructor;
import java.lang.reflect.Field;
import java.lang.reflect.Method;
import java.lang.reflect.Modifier;
import java.util.Arrays;
import java.util.Set;
import java.util.TreeSet;

/** The public face is the document's, and nothing beside it can be seen from outside. */
public final class FaceTest {
    private static final String[] FACE = {
        "data(int,int,int,int,int)int", "enter(int,int,int,int)int", "finish(int)int", "key(int,int)void",
        "measure(int,int)int", "peek(int,int)int", "poke(int,int,int)int", "remove(int)int",
        "result()int", "resume(int,int)int", "share(int,int,int,int)int", "space(int)int",
        "spare(int,int)int", "steps()int", "stop(int)int", "table(int,int,int)int",
        "thread(int,int,int)int", "told(int,int)int",
    };

    public static void main(String[] args) {
        Due due = new Due("FaceTest");
        Class<?> c = PageMonitor.class;
        due.same("class is public and final", c.getModifiers(), Modifier.PUBLIC | Modifier.FINAL);
        due.same("NONE", PageMonitor.NONE, -1);

        Set<String> open = new TreeSet<>();
        Set<String> openNames = new TreeSet<>();
        for (Method m : c.getDeclaredMethods()) {
            if (!Modifier.isPrivate(m.getModifiers())) {
                open.add(signature(m));
                openNames.add(m.getName());
                due.same(m.getName() + " is public and of the object", m.getModifiers(), Modifier.PUBLIC);
            }
        }
        due.same("methods " + open, open.equals(new TreeSet<>(Arrays.asList(FACE))) ? 1 : 0, 1);
        noPrivateMethodBearsAPublicName(due, c, openNames);

        for (Field f : c.getDeclaredFields()) {
            boolean open1 = !Modifier.isPrivate(f.getModifiers());
            due.same("field " + f.getName() + " is open", open1 ? 1 : 0, f.getName().equals("NONE") ? 1 : 0);
            due.same("field " + f.getName() + " is final", Modifier.isFinal(f.getModifiers()) ? 1 : 0, 1);
        }
        Constructor<?>[] makers = c.getDeclaredConstructors();
        due.same("constructors", makers.length, 1);
        due.same("the constructor's parameters", makers[0].getParameterCount(), 0);
        due.end();
    }

    private static void noPrivateMethodBearsAPublicName(Due due, Class<?> c, Set<String> names) {
        for (Method m : c.getDeclaredMethods()) {
            if (Modifier.isPrivate(m.getModifiers())) {
                due.same("private " + m.getName(), names.contains(m.getName()) ? 1 : 0, 0);
            }
        }
        for (Class<?> inside : c.getDeclaredClasses()) {
            due.same(inside.getName() + " is static", Modifier.isStatic(inside.getModifiers()) ? 1 : 0, 1);
            for (Method m : inside.getDeclaredMethods()) {
                due.same(inside.getName() + "." + m.getName(), names.contains(m.getName()) ? 1 : 0, 0);
            }
        }
    }

    private static String signature(Method m) {
        StringBuilder text = new StringBuilder(m.getName()).append('(');
        for (Class<?> p : m.getParameterTypes()) {
            text.append(text.charAt(text.length() - 1) == '(' ? "" : ",").append(p.getName());
        }
        return text.append(')').append(m.getReturnType().getName()).toString();
    }
}
