import java.lang.reflect.Array;
import java.lang.reflect.Field;
import java.lang.reflect.Modifier;
import java.util.Collections;
import java.util.IdentityHashMap;
import java.util.Set;

/** "All memory is rows made once": what an object holds is the same, row for row, behind its calls. */
public final class MemoryTest {
    public static void main(String[] args) throws IllegalAccessException {
        Check check = new Check();
        check.about("all memory is rows made once");
        EntryRows x = new EntryRows();
        Set<Object> before = held(x);
        use(x);
        Set<Object> behind = held(x);
        check.same("as many rows", before.size() == behind.size() ? "as many rows" : "other rows");
        check.same("the same rows", before.containsAll(behind) ? "the same rows" : "other rows");
        check.end();
    }

    private static void use(EntryRows x) {
        for (int b = 0; b < 8; b++) {
            x.board(1, 10, 0);
            x.keep(b, 30 + b);
        }
        for (int p = 0; p < 30; p++) {
            x.member(p / 2, p, true);
        }
        x.rest(0);
        x.heat(0, 100);
        x.safety(3, 15, true);
        for (int round = 0; round < 6; round++) {
            for (int t = 0; t < 15; t++) {
                x.enter(7, t, 0, 0, false);
            }
            x.tick(11);
            x.swap(0, 29);
            for (int p = 0; p < 30; p++) {
                x.out(7, p);
            }
        }
        x.join(3, 7);
        x.close(0);
        Check.outcome(() -> x.close(0));
        x.boardAt(7, 4);
        x.on(7, 3);
        x.late(0);
        x.person(0, 7);
        x.count(1);
    }

    private static Set<Object> held(Object root) throws IllegalAccessException {
        Set<Object> all = Collections.newSetFromMap(new IdentityHashMap<>());
        gather(root, all);
        return all;
    }

    private static void gather(Object o, Set<Object> all) throws IllegalAccessException {
        if (o == null || !all.add(o)) {
            return;
        }
        if (o.getClass().isArray()) {
            boolean ofObjects = !o.getClass().getComponentType().isPrimitive();
            for (int i = 0; ofObjects && i < Array.getLength(o); i++) {
                gather(Array.get(o, i), all);
            }
            return;
        }
        for (Field f : o.getClass().getDeclaredFields()) {
            if (!f.getType().isPrimitive() && !Modifier.isStatic(f.getModifiers())) {
                f.setAccessible(true);
                gather(f.get(o), all);
            }
        }
    }
}
