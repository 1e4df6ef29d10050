import java.lang.reflect.Array;
import java.lang.reflect.Field;
import java.lang.reflect.Modifier;
import java.util.Collections;
import java.util.IdentityHashMap;
import java.util.Set;

/** All calls of one run live in one room: rows are made once and used again. */
public final class RoomTest {
    private static long elements;

    public static void main(String[] args) throws ReflectiveOperationException {
        Desk desk = new Desk();
        use(desk, 0);
        use(desk, 1);
        use(desk, 2);
        Set<Object> before = Collections.newSetFromMap(new IdentityHashMap<>());
        walk(desk.press, before);
        Desk.due("a press that was used has at most a million fields and elements", 1, elements <= 1000000 ? 1 : 0);
        Desk.due("and few objects", 1, before.size() <= 200 ? 1 : 0);
        for (int n = 3; n < 60; n++) {
            use(desk, n);
        }
        Set<Object> after = Collections.newSetFromMap(new IdentityHashMap<>());
        walk(desk.press, after);
        Desk.due("no more objects", before.size(), after.size());
        before.retainAll(after);
        Desk.due("the same objects", after.size(), before.size());
        Desk.close("RoomTest");
    }

    private static void use(Desk desk, int n) {
        desk.font("width\"a\"" + n + ";");
        desk.hyphens("a1b");
        desk.style("page{width:50000;}b{show:block;hyphens:yes;}n{show:note;}");
        desk.source("<b>aaa bbb <n>ccc</n>" + "ddd ".repeat(n) + "</b>");
        desk.press.set(9);
        desk.page(1);
        desk.press.element(0, 6);
        desk.judge(0, "1");
        desk.change(3, 4, "q");
        try {
            desk.style("?");
        } catch (UnsupportedOperationException e) {
            desk.press.set(1);
        }
    }

    private static void walk(Object o, Set<Object> seen) throws ReflectiveOperationException {
        if (o == null || !seen.add(o)) {
            return;
        }
        if (o.getClass().isArray()) {
            elements += Array.getLength(o);
            return;
        }
        for (Field f : o.getClass().getDeclaredFields()) {
            if (!Modifier.isStatic(f.getModifiers())) {
                f.setAccessible(true);
                elements++;
                if (!f.getType().isPrimitive()) {
                    walk(f.get(o), seen);
                }
            }
        }
    }
}
