import java.lang.reflect.Array;
import java.lang.reflect.Field;

/** Reads and sets the fields of a maze, for what can't be reached by calls alone. */
final class Inside {
    private Inside() {
    }

    static Object field(Object holder, String name) throws ReflectiveOperationException {
        Field field = holder.getClass().getDeclaredField(name);
        field.setAccessible(true);
        return field.get(holder);
    }

    static void setField(Object holder, String name, Object value) throws ReflectiveOperationException {
        Field field = holder.getClass().getDeclaredField(name);
        field.setAccessible(true);
        field.set(holder, value);
    }

    static Object root(Pagemaze maze, int version) throws ReflectiveOperationException {
        return Array.get(field(field(maze, "tree"), "roots"), version);
    }

    static Object below(Object page, int slot) throws ReflectiveOperationException {
        return Array.get(field(page, "below"), slot);
    }

    static int[] rooms(Object page) throws ReflectiveOperationException {
        return (int[]) field(page, "rooms");
    }

    /** Makes the latest version the first and only one, so that there are versions left for more keys. */
    static void forgetVersions(Pagemaze maze) throws ReflectiveOperationException {
        Object tree = field(maze, "tree");
        Array.set(field(tree, "roots"), 0, field(tree, "latest"));
        setField(tree, "count", 1);
    }
}
