import java.lang.reflect.Field;
import java.util.List;

/** Reaches into an object by the names of its private fields, to make it unsound: no run of calls can do so. */
final class Inside {
    private Inside() {
    }

    private static Field field(Object holder, String name) {
        try {
            Field field = holder.getClass().getDeclaredField(name);
            field.setAccessible(true);
            return field;
        } catch (NoSuchFieldException gone) {
            throw new IllegalStateException("there is no field " + name + " any more", gone);
        }
    }

    static Object of(Object holder, String name) {
        try {
            return field(holder, name).get(holder);
        } catch (IllegalAccessException closed) {
            throw new IllegalStateException(closed);
        }
    }

    /** What stands at a number of one of its lists. */
    static Object at(Exportcover x, String list, int number) {
        return ((List<?>) of(x, list)).get(number);
    }

    static void add(Object holder, String name, int amount) {
        try {
            Field field = field(holder, name);
            field.setInt(holder, field.getInt(holder) + amount);
        } catch (IllegalAccessException closed) {
            throw new IllegalStateException(closed);
        }
    }

    static void set(Object holder, String name, boolean is) {
        try {
            field(holder, name).setBoolean(holder, is);
        } catch (IllegalAccessException closed) {
            throw new IllegalStateException(closed);
        }
    }
}
