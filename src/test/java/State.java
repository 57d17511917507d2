import java.lang.reflect.Array;
import java.lang.reflect.Field;
import java.lang.reflect.Modifier;
import java.util.ArrayList;
import java.util.HashMap;
import java.util.List;
import java.util.Map;

/** All that a house holds, as a text by which two states can be told apart. */
final class State {
    /** Rows that a search writes anew in each call, so that they are no state. */
    private static final String SCRATCH = "SetSearch";
    private static final Map<Class<?>, List<Field>> FIELDS = new HashMap<>();

    private State() {
    }

    static String of(Gatherhouse house) {
        StringBuilder told = new StringBuilder();
        tell(house, told);
        return told.toString();
    }

    private static void tell(Object thing, StringBuilder told) {
        if (thing == null) {
            told.append("- ");
        } else if (thing.getClass().isArray()) {
            tellRow(thing, told);
        } else if (thing instanceof Number || thing instanceof Character || thing instanceof Boolean) {
            told.append(thing).append(' ');
        } else if (!thing.getClass().getSimpleName().equals(SCRATCH)) {
            tellFields(thing, told);
        }
    }

    private static void tellRow(Object row, StringBuilder told) {
        told.append("[ ");
        for (int i = 0; i < Array.getLength(row); i++) {
            tell(Array.get(row, i), told);
        }
        told.append("] ");
    }

    private static void tellFields(Object thing, StringBuilder told) {
        told.append("{ ");
        try {
            for (Field field : FIELDS.computeIfAbsent(thing.getClass(), State::fieldsOf)) {
                told.append(field.getName()).append('=');
                tell(field.get(thing), told);
            }
        } catch (IllegalAccessException hidden) {
            throw new AssertionError(hidden);
        }
        told.append("} ");
    }

    private static List<Field> fieldsOf(Class<?> owner) {
        List<Field> own = new ArrayList<>();
        for (Field field : owner.getDeclaredFields()) {
            if (!Modifier.isStatic(field.getModifiers())) {
                field.setAccessible(true);
                own.add(field);
            }
        }
        return own;
    }
}
