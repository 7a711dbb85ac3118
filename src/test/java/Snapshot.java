import java.lang.reflect.Array;
import java.lang.reflect.Field;
import java.lang.reflect.Modifier;

/** All that a house holds in its fields, as one text, whatever the fields are called. */
final class Snapshot {
    /** Far more than a house can be nested: who gets there goes round in a ring. */
    private static final int DEEPEST = 20;

    private final StringBuilder seen = new StringBuilder();

    private Snapshot() {
    }

    static String of(Nomdeplume house) {
        Snapshot snapshot = new Snapshot();
        snapshot.fieldsOf(house, 0);
        return snapshot.seen.toString();
    }

    private void fieldsOf(Object owner, int depth) {
        seen.append('{');
        for (Field field : owner.getClass().getDeclaredFields()) {
            if (!Modifier.isStatic(field.getModifiers())) {
                seen.append(field.getName()).append('=');
                value(valueIn(field, owner), depth + 1);
            }
        }
        seen.append('}');
    }

    private static Object valueIn(Field field, Object owner) {
        try {
            field.setAccessible(true);
            return field.get(owner);
        } catch (IllegalAccessException e) {
            throw new IllegalStateException(e);
        }
    }

    private void value(Object value, int depth) {
        if (depth > DEEPEST) {
            throw new IllegalStateException("a ring of objects");
        }
        if (value == null || value instanceof Number || value instanceof Boolean || value instanceof Character || value instanceof String) {
            seen.append(value).append(' ');
        } else if (value.getClass().isArray()) {
            seen.append('[');
            for (int i = 0; i < Array.getLength(value); i++) {
                value(Array.get(value, i), depth + 1);
            }
            seen.append(']');
        } else {
            fieldsOf(value, depth);
        }
    }
}
