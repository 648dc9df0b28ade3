import java.lang.reflect.Constructor;
import java.lang.reflect.Field;
import java.lang.reflect.Member;
import java.lang.reflect.Method;
import java.lang.reflect.Modifier;
import java.util.Arrays;
import java.util.TreeSet;

/** The public face: what is there, and that nothing else can be seen. */
public final class FaceTest {
    private static final String[] METHODS = {
        "void target(int,int,int,int,int) IndexOutOfBoundsException IllegalArgumentException",
        "void keep(int,int,int,int,boolean) IndexOutOfBoundsException IllegalArgumentException",
        "void tool(int,int,int) IndexOutOfBoundsException IllegalArgumentException",
        "boolean unit(int)",
        "int read()",
        "int run() IllegalStateException",
        "int about(int) IndexOutOfBoundsException IllegalStateException",
        "int cell(int,int,int) IndexOutOfBoundsException",
        "int check(int) IndexOutOfBoundsException",
        "int reached(int) IndexOutOfBoundsException",
        "int pieces()",
        "void blank()",
    };

    public static void main(String[] args) {
        Due due = new Due("FaceTest");
        due.is("NONE", RouterPaths.NONE, -1);
        due.yes("public final class", RouterPaths.class.getModifiers() == (Modifier.PUBLIC | Modifier.FINAL));
        TreeSet<String> seen = new TreeSet<>();
        TreeSet<String> names = new TreeSet<>();
        for (Method m : RouterPaths.class.getDeclaredMethods()) {
            if (!Modifier.isPrivate(m.getModifiers())) {
                seen.add(written(m));
                names.add(m.getName());
            }
        }
        TreeSet<String> wanted = new TreeSet<>(Arrays.asList(METHODS));
        if (!seen.equals(wanted)) {
            System.out.println("seen " + seen + "\ndue " + wanted);
        }
        due.yes("the methods", seen.equals(wanted));
        for (Field f : RouterPaths.class.getDeclaredFields()) {
            due.yes("field " + f.getName(), f.getName().equals("NONE") == !Modifier.isPrivate(f.getModifiers()));
        }
        Constructor<?>[] made = RouterPaths.class.getDeclaredConstructors();
        due.is("constructors", made.length, 1);
        due.yes("constructor(int)", isPublic(made[0]) && Arrays.equals(made[0].getParameterTypes(), new Class<?>[] {int.class}));
        for (Class<?> inside : RouterPaths.class.getDeclaredClasses()) {
            due.yes(inside.getName() + " is static", Modifier.isStatic(inside.getModifiers()));
            due.no(inside.getName() + " is public", Modifier.isPublic(inside.getModifiers()));
            for (Method m : inside.getDeclaredMethods()) {
                due.no(m + " bears a public name", names.contains(m.getName()));
            }
        }
        due.end();
    }

    private static boolean isPublic(Member member) {
        return Modifier.isPublic(member.getModifiers());
    }

    private static String written(Method m) {
        StringBuilder out = new StringBuilder();
        if (m.getModifiers() != Modifier.PUBLIC) {
            out.append(Modifier.toString(m.getModifiers())).append(' ');
        }
        out.append(m.getReturnType()).append(' ').append(m.getName()).append('(');
        Class<?>[] types = m.getParameterTypes();
        for (int i = 0; i < types.length; i++) {
            out.append(i == 0 ? "" : ",").append(types[i]);
        }
        out.append(')');
        for (Class<?> thrown : m.getExceptionTypes()) {
            out.append(' ').append(thrown.getSimpleName());
        }
        return out.toString();
    }
}
