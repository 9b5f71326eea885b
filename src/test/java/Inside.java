import java.lang.reflect.Array;
import java.lang.reflect.Field;
import java.lang.reflect.Modifier;

/** All that an object holds, as a text: a refused call must leave it as it was. */
final class Inside {
  private final StringBuilder text = new StringBuilder();

  private Inside() {}

  static String of(Object owner) {
    Inside inside = new Inside();
    inside.tellFields(owner);
    return inside.text.toString();
  }

  private void tell(Object value, Class<?> type) {
    if (value == null || type.isPrimitive() || value instanceof String) {
      text.append(value).append(' ');
    } else if (type.isArray()) {
      for (int i = 0; i < Array.getLength(value); i++) {
        tell(Array.get(value, i), type.getComponentType());
      }
    } else {
      tellFields(value);
    }
  }

  private void tellFields(Object owner) {
    for (Field field : owner.getClass().getDeclaredFields()) {
      if (!Modifier.isStatic(field.getModifiers())) {
        field.setAccessible(true);
        text.append(field.getName()).append('=');
        try {
          tell(field.get(owner), field.getType());
        } catch (IllegalAccessException e) {
          throw new AssertionError(e);
        }
      }
    }
  }
}
