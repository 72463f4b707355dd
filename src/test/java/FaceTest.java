import java.lang.reflect.Constructor;
import java.lang.reflect.Field;
import java.lang.reflect.Method;
import java.lang.reflect.Modifier;
import java.util.Arrays;
import java.util.Set;
import java.util.TreeSet;

/** The public face is the document's, no member more and none less, as rule 1 of LANGUAGE.md asks too. */
public final class FaceTest {
    private static final Due DUE = new Due("FaceTest");
    private static final String INDEX = " throws java.lang.IndexOutOfBoundsException";
    private static final String[] FACE = {
        "void key(int,int)" + INDEX,
        "int poke(int,int,int)" + INDEX,
        "int peek(int,int)" + INDEX,
        "int space(int)",
        "int thread(int,int,int)",
        "int table(int,int,int)",
        "int data(int,int,int,int,int)",
        "int share(int,int,int,int)",
        "int spare(int,int)",
        "int finish(int)",
        "int stop(int)",
        "int remove(int)",
        "int enter(int,int,int,int)",
        "int resume(int,int)",
        "int result()",
        "int steps()",
        "int told(int,int)" + INDEX + ",java.lang.IllegalArgumentException",
        "int measure(int,int)" + INDEX + ",java.lang.IllegalStateException",
    };

    public static void main(String[] args) {
        theClass(PageMonitor.class);
        methods(PageMonitor.class);
        fields(PageMonitor.class);
        constructors(PageMonitor.class);
        classesInside(PageMonitor.class);
        DUE.end();
    }

    private static void yes(String what, boolean holds) {
        DUE.same(what + " (1: so it is)", holds ? 1 : 0, 1);
    }

    /** The public face: "public final class PageMonitor {". */
    private static void theClass(Class<?> c) {
        DUE.same("the modifiers of the class", c.getModifiers(), Modifier.PUBLIC | Modifier.FINAL);
        yes("the class extends Object alone", c.getSuperclass() == Object.class);
        DUE.same("interfaces of the class", c.getInterfaces().length, 0);
        yes("the class has no package", c.getPackageName().isEmpty());
    }

    /** The public face: each method as it is declared there, with what it throws, and none beside. */
    private static void methods(Class<?> c) {
        Set<String> open = new TreeSet<>();
        for (Method m : c.getDeclaredMethods()) {
            if (!Modifier.isPrivate(m.getModifiers())) {
                open.add(declared(m));
                DUE.same("the modifiers of " + m.getName(), m.getModifiers(), Modifier.PUBLIC);
            }
        }
        Set<String> due = new TreeSet<>(Arrays.asList(FACE));
        for (String method : due) {
            yes("there is " + method, open.contains(method));
        }
        for (String method : open) {
            yes("the document has " + method, due.contains(method));
        }
    }

    /** A method as the document declares it, apart from the names of its parameters. */
    private static String declared(Method m) {
        return m.toGenericString().replace("public ", "").replace(", ", ",").replace("PageMonitor.", "");
    }

    /** The public face: "public static final int NONE = -1;". */
    private static void fields(Class<?> c) {
        boolean found = false;
        for (Field f : c.getDeclaredFields()) {
            boolean none = f.getName().equals("NONE");
            found |= none;
            yes("field " + f.getName() + " is final", Modifier.isFinal(f.getModifiers()));
            DUE.same("the modifiers of " + f.getName() + " that open it",
                f.getModifiers() & (Modifier.PUBLIC | Modifier.PROTECTED | Modifier.PRIVATE),
                none ? Modifier.PUBLIC : Modifier.PRIVATE);
            yes("only NONE is an open static int", !none || Modifier.isStatic(f.getModifiers())
                && f.getType() == int.class);
        }
        yes("there is NONE", found);
        DUE.same("NONE", PageMonitor.NONE, -1);
    }

    /** The public face: "public PageMonitor();". */
    private static void constructors(Class<?> c) {
        Constructor<?>[] makers = c.getDeclaredConstructors();
        DUE.same("constructors", makers.length, 1);
        DUE.same("the constructor's modifiers", makers[0].getModifiers(), Modifier.PUBLIC);
        DUE.same("the constructor's parameters", makers[0].getParameterCount(), 0);
        DUE.same("what the constructor throws", makers[0].getExceptionTypes().length, 0);
    }

    /** LANGUAGE.md, 1: classes inside are "private or package-visible and static"; a name of the face is its own. */
    private static void classesInside(Class<?> c) {
        Set<String> names = new TreeSet<>();
        for (Method m : c.getMethods()) {
            names.add(m.getName());
        }
        for (Method m : c.getDeclaredMethods()) {
            yes("private " + m.getName() + " bears no public name",
                Modifier.isPublic(m.getModifiers()) || !names.contains(m.getName()));
        }
        for (Class<?> inside : c.getDeclaredClasses()) {
            yes(inside.getName() + " is static", Modifier.isStatic(inside.getModifiers()));
            DUE.same("what opens " + inside.getName(),
                inside.getModifiers() & (Modifier.PUBLIC | Modifier.PROTECTED), 0);
            for (Method m : inside.getDeclaredMethods()) {
                yes(inside.getName() + "." + m.getName() + " bears no public name", !names.contains(m.getName()));
            }
        }
    }
}
