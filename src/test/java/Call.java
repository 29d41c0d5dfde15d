import java.lang.reflect.Method;
import java.util.Arrays;
import java.util.HashMap;
import java.util.Map;

/** A call by its name and numbers, which can be made of any class with the document's face. */
final class Call {
    private static final Map<Class<?>, Map<String, Method>> FACES = new HashMap<>();

    final String name;
    final int[] numbers;

    Call(String name, int... numbers) {
        this.name = name;
        this.numbers = numbers;
    }

    /** What it answers; a boolean counts 1 or 0. */
    int of(Object target) {
        Object[] all = new Object[numbers.length];
        for (int i = 0; i < all.length; i++) all[i] = numbers[i];
        try {
            Object answer = face(target.getClass()).get(name).invoke(target, all);
            return answer instanceof Boolean ? (Boolean) answer ? 1 : 0 : (Integer) answer;
        } catch (ReflectiveOperationException e) {
            throw new IllegalStateException(this + " threw", e.getCause() == null ? e : e.getCause());
        }
    }

    private static Map<String, Method> face(Class<?> of) {
        return FACES.computeIfAbsent(of, c -> {
            Map<String, Method> face = new HashMap<>();
            for (Method m : c.getDeclaredMethods()) face.put(m.getName(), m);
            return face;
        });
    }

    @Override
    public String toString() {
        String all = Arrays.toString(numbers);
        return name + "(" + all.substring(1, all.length() - 1) + ")";
    }
}
