import java.lang.reflect.Method;
import java.util.LinkedHashMap;
import java.util.Map;

/** A call of the face that can be told, and done on any object. */
final class Call {
    private static final Map<String, Method> FACE = new LinkedHashMap<>();
    static {
        for (Method m : FamilyFields.class.getDeclaredMethods()) {
            if (java.lang.reflect.Modifier.isPublic(m.getModifiers())) FACE.put(m.getName(), m);
        }
    }

    final String name;
    private final long[] numbers;

    Call(String name, long... numbers) {
        this.name = name;
        this.numbers = numbers;
    }

    static Class<?>[] sorts(String name) {
        return FACE.get(name).getParameterTypes();
    }

    long on(FamilyFields x) {
        Class<?>[] sorts = sorts(name);
        Object[] given = new Object[sorts.length];
        for (int i = 0; i < given.length; i++) {
            if (sorts[i] == boolean.class) given[i] = numbers[i] != 0;
            else if (sorts[i] == int.class) given[i] = (int) numbers[i];
            else given[i] = numbers[i];
        }
        try {
            return ((Number) FACE.get(name).invoke(x, given)).longValue();
        } catch (ReflectiveOperationException e) {
            throw new IllegalStateException(this + " can't be done", e);
        }
    }

    @Override public String toString() {
        StringBuilder text = new StringBuilder(name).append('(');
        for (int i = 0; i < numbers.length; i++) text.append(i > 0 ? ", " : "").append(numbers[i]);
        return text.append(')').toString();
    }
}
