import java.lang.reflect.Constructor;
import java.lang.reflect.Field;
import java.lang.reflect.Method;
import java.lang.reflect.Modifier;
import java.util.ArrayList;
import java.util.Arrays;
import java.util.Collections;
import java.util.List;

/** The public face, as the document writes it, and LANGUAGE.md's rules 1 and 5 as far as the class file tells. */
public final class FaceTest {
    private static final String[] METHODS = {
        "int append(int) IllegalArgumentException IllegalStateException",
        "int clearText()",
        "int errorPosition()",
        "int about(int) IllegalArgumentException",
        "int skater(int,int) IndexOutOfBoundsException IllegalArgumentException",
        "int element(int,int,int) IndexOutOfBoundsException IllegalArgumentException",
        "int part(int,int,int,int) IndexOutOfBoundsException IllegalArgumentException",
        "int setting(int) IllegalArgumentException",
        "int add() IllegalStateException",
        "int program(int) IndexOutOfBoundsException IllegalStateException",
        "int mark(int,int,int) IndexOutOfBoundsException IllegalArgumentException",
        "int component(int,int,int) IndexOutOfBoundsException IllegalArgumentException",
        "int call(int,int,int,int) IndexOutOfBoundsException IllegalArgumentException IllegalStateException",
        "int review(int,int,boolean) IndexOutOfBoundsException",
        "int fall(int,int,boolean) IndexOutOfBoundsException",
        "int penalty(int,int) IndexOutOfBoundsException IllegalArgumentException",
        "int set(int,int) IllegalArgumentException",
        "int undo() IllegalStateException",
        "int ifCalled(int,int,int,int) IndexOutOfBoundsException IllegalArgumentException IllegalStateException",
        "int ifReplaced(int,int) IndexOutOfBoundsException IllegalStateException",
        "int bestSwap(int,int) IndexOutOfBoundsException IllegalArgumentException",
        "int needs(int,int) IndexOutOfBoundsException",
        "int behind(int) IndexOutOfBoundsException",
        "int runScript(int,long) IllegalArgumentException",
        "int simulate(long,int) IllegalArgumentException",
        "int save(int) IndexOutOfBoundsException",
        "int restore(int) IndexOutOfBoundsException IllegalStateException",
    };

    public static void main(String[] args) {
        Class<?> face = SkateSheet.class;
        same("the class", "public final", Modifier.toString(face.getModifiers()));
        List<String> methods = new ArrayList<>();
        List<String> names = new ArrayList<>();
        for (Method m : face.getDeclaredMethods()) {
            if (!Modifier.isPrivate(m.getModifiers())) {
                methods.add(told(m));
                names.add(m.getName());
                same(m.getName(), "public", Modifier.toString(m.getModifiers()));
            }
        }
        Collections.sort(methods);
        List<String> due = new ArrayList<>(Arrays.asList(METHODS));
        Collections.sort(due);
        same("the methods", due.toString(), methods.toString());
        for (Method m : face.getDeclaredMethods()) {
            if (Modifier.isPrivate(m.getModifiers()) && names.contains(m.getName())) {
                Check.report("a private method bears the public name " + m.getName());
            }
        }
        Constructor<?>[] makers = face.getDeclaredConstructors();
        same("the constructors", "[public SkateSheet()]", Arrays.toString(makers));
        fields(face);
        for (Class<?> inside : face.getDeclaredClasses()) {
            if (!Modifier.isStatic(inside.getModifiers()) || Modifier.isPublic(inside.getModifiers())) {
                Check.report("a class inside that is public or not static: " + inside.getName());
            }
        }
        Check.is(-1, () -> SkateSheet.NONE, "NONE");
        Check.finish();
    }

    private static void fields(Class<?> face) {
        for (Field f : face.getDeclaredFields()) {
            int is = f.getModifiers();
            if (f.getName().equals("NONE")) {
                same("NONE", "public static final int SkateSheet.NONE", f.toString());
            } else if (!Modifier.isPrivate(is)) {
                Check.report("a field that is not private: " + f.getName());
            }
            if (Modifier.isStatic(is) && !Modifier.isFinal(is)) {
                Check.report("a static field that is not final: " + f.getName());
            }
        }
    }

    private static String told(Method m) {
        StringBuilder b = new StringBuilder();
        b.append(m.getReturnType()).append(' ').append(m.getName()).append('(');
        for (int i = 0; i < m.getParameterCount(); i++) {
            b.append(i == 0 ? "" : ",").append(m.getParameterTypes()[i]);
        }
        b.append(')');
        for (Class<?> e : m.getExceptionTypes()) {
            b.append(' ').append(e.getSimpleName());
        }
        return b.toString();
    }

    private static void same(String what, String due, String got) {
        if (!due.equals(got)) {
            Check.report(what + " is " + got + ", due is " + due);
        }
    }
}
