import java.lang.reflect.Constructor;
import java.lang.reflect.Field;
import java.lang.reflect.Member;
import java.lang.reflect.Method;
import java.lang.reflect.Modifier;
import java.util.ArrayList;
import java.util.Arrays;
import java.util.List;

/** The public face: what the document names, and no other member that is not private. */
public final class FaceTest {
    private static final String[] FACE = {
        "float apart(int,int) NoSuchElementException",
        "int clock(int,int,int,int) IllegalArgumentException IllegalStateException",
        "int count(int) IllegalArgumentException",
        "void grade(int,int,int,int) NoSuchElementException IllegalArgumentException",
        "int heard(int,int,int) NoSuchElementException IllegalArgumentException",
        "void join(int,boolean) NoSuchElementException IllegalStateException",
        "int link(int,int,int,int) NoSuchElementException IllegalArgumentException IllegalStateException",
        "int look(int,int) NoSuchElementException IllegalArgumentException",
        "void lose(int) NoSuchElementException",
        "float mean(int) NoSuchElementException",
        "int message(int,int) IllegalArgumentException",
        "int port(int,int) NoSuchElementException",
        "void power(int,boolean) NoSuchElementException IllegalStateException",
        "long reading(int) NoSuchElementException",
        "void set(int,long) NoSuchElementException",
        "long stamp(int,boolean)",
        "float sum(int) NoSuchElementException",
        "int tick()",
    };

    private FaceTest() {
    }

    public static void main(String[] args) {
        Check.due("public and final", ClockNet.class.getModifiers(), Modifier.PUBLIC | Modifier.FINAL);
        constructorIsAlone();
        methodsAreThoseOfTheDocument();
        fieldsArePrivate();
        classesInsideAreStatic();
        Check.end("FaceTest");
    }

    private static void constructorIsAlone() {
        Constructor<?>[] made = ClockNet.class.getDeclaredConstructors();
        Check.due("constructors", made.length, 1);
        Check.due("its parameters", made[0].getParameterCount(), 0);
        Check.due("it is public", Modifier.isPublic(made[0].getModifiers()) ? 1 : 0, 1);
    }

    private static void methodsAreThoseOfTheDocument() {
        List<String> seen = new ArrayList<>();
        List<String> hidden = new ArrayList<>();
        List<String> names = new ArrayList<>();
        for (Method m : ClockNet.class.getDeclaredMethods()) {
            if (isPrivate(m)) {
                hidden.add(m.getName());
            } else {
                seen.add(describe(m));
                names.add(m.getName());
            }
        }
        List<String> missing = new ArrayList<>(Arrays.asList(FACE));
        missing.removeAll(seen);
        seen.removeAll(Arrays.asList(FACE));
        hidden.retainAll(names);
        isEmpty("missing", missing);
        isEmpty("not of the document", seen);
        isEmpty("private with a public name", hidden);
    }

    private static void fieldsArePrivate() {
        for (Field f : ClockNet.class.getDeclaredFields()) {
            Check.due(f.getName() + " is private", isPrivate(f) ? 1 : 0, 1);
            boolean changing = Modifier.isStatic(f.getModifiers()) && !Modifier.isFinal(f.getModifiers());
            Check.due(f.getName() + " is static and changes", changing ? 1 : 0, 0);
        }
    }

    private static void classesInsideAreStatic() {
        for (Class<?> inside : ClockNet.class.getDeclaredClasses()) {
            int modifiers = inside.getModifiers();
            String name = inside.getSimpleName();
            Check.holds(name + " is static", Modifier.isStatic(modifiers));
            Check.holds(name + " is hidden", !Modifier.isPublic(modifiers) && !Modifier.isProtected(modifiers));
        }
    }

    private static boolean isPrivate(Member m) {
        return Modifier.isPrivate(m.getModifiers()) || m.isSynthetic();
    }

    private static String describe(Method m) {
        StringBuilder text = new StringBuilder();
        text.append(m.getReturnType().getSimpleName()).append(' ').append(m.getName()).append('(');
        String comma = "";
        for (Class<?> p : m.getParameterTypes()) {
            text.append(comma).append(p.getSimpleName());
            comma = ",";
        }
        text.append(')');
        for (Class<?> e : m.getExceptionTypes()) {
            text.append(' ').append(e.getSimpleName());
        }
        return text.toString();
    }

    private static void isEmpty(String what, List<String> list) {
        for (String s : list) {
            Check.tell(what + ": " + s);
        }
    }
}
