import java.lang.reflect.Constructor;
import java.lang.reflect.Field;
import java.lang.reflect.Method;
import java.lang.reflect.Modifier;
import java.util.Arrays;
import java.util.HashSet;
import java.util.Set;
import java.util.TreeSet;

/** The class shows the document's face and nothing else. */
public final class FaceTest {
    private static final String[] FACE = {
        "int board(int,int,int) IndexOutOfBoundsException UnsupportedOperationException",
        "void keep(int,int) IllegalArgumentException IllegalStateException",
        "void right(int,boolean) IllegalArgumentException",
        "void rest(int) IndexOutOfBoundsException",
        "void heat(int,int) IllegalArgumentException IndexOutOfBoundsException",
        "int member(int,int,boolean) IllegalArgumentException IllegalStateException UnsupportedOperationException",
        "int safety(int,int,boolean) IllegalArgumentException IllegalStateException",
        "int enter(int,int,int,int,boolean) IllegalArgumentException IndexOutOfBoundsException IllegalStateException",
        "int out(int,int) IllegalArgumentException IllegalStateException",
        "void swap(int,int) IllegalArgumentException IllegalStateException",
        "int join(int,int) IllegalArgumentException IllegalStateException",
        "void close(int) IllegalArgumentException IllegalStateException",
        "int tick(int) IndexOutOfBoundsException",
        "int on(int,int) IllegalArgumentException IndexOutOfBoundsException",
        "int late(int) IndexOutOfBoundsException",
        "int person(int,int) IllegalArgumentException",
        "int boardAt(int,int) IllegalArgumentException",
        "int count(int) IllegalArgumentException",
    };

    public static void main(String[] args) {
        Check check = new Check();
        check.about("the face");
        Set<String> seen = new TreeSet<>();
        Set<String> publicNames = new HashSet<>();
        for (Method m : EntryRows.class.getDeclaredMethods()) {
            if (!Modifier.isPrivate(m.getModifiers())) {
                seen.add(Modifier.toString(m.getModifiers()) + " " + written(m));
                publicNames.add(m.getName());
            }
        }
        Set<String> due = new TreeSet<>();
        for (String line : FACE) {
            due.add("public " + line);
        }
        check.same(due.toString(), seen.toString());
        privateNames(check, EntryRows.class, publicNames);
        fields(check);
        check.same("public final", Modifier.toString(EntryRows.class.getModifiers()));
        Constructor<?>[] made = EntryRows.class.getDeclaredConstructors();
        check.same("[public EntryRows()]", Arrays.toString(made));
        for (Class<?> inside : EntryRows.class.getDeclaredClasses()) {
            check.same("static", Modifier.isStatic(inside.getModifiers()) ? "static" : inside.getName());
            privateNames(check, inside, publicNames);
        }
        check.end();
    }

    private static void privateNames(Check check, Class<?> of, Set<String> publicNames) {
        String due = "no private method of a public one's name";
        for (Method m : of.getDeclaredMethods()) {
            boolean hides = Modifier.isPrivate(m.getModifiers()) && publicNames.contains(m.getName());
            check.same(due, hides ? m.getName() : due);
        }
    }

    private static void fields(Check check) {
        for (Field f : EntryRows.class.getDeclaredFields()) {
            boolean hidden = Modifier.isPrivate(f.getModifiers());
            boolean kept = !Modifier.isStatic(f.getModifiers()) || Modifier.isFinal(f.getModifiers());
            check.same("private, final if static", hidden && kept ? "private, final if static" : f.getName());
        }
    }

    private static String written(Method m) {
        StringBuilder text = new StringBuilder();
        text.append(m.getReturnType().getName()).append(' ').append(m.getName()).append('(');
        Class<?>[] types = m.getParameterTypes();
        for (int i = 0; i < types.length; i++) {
            text.append(i == 0 ? "" : ",").append(types[i].getName());
        }
        text.append(')');
        for (Class<?> thrown : m.getExceptionTypes()) {
            text.append(' ').append(thrown.getSimpleName());
        }
        return text.toString();
    }
}
