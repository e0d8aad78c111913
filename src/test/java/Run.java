import java.lang.reflect.InvocationTargetException;
import java.lang.reflect.Method;
import java.util.HashMap;
import java.util.Map;

/** Runs of calls written as text: "way 5 1 0 1 | arrive 0 3". "read late 0;..." feeds a text and reads it. */
final class Run {
    private static final Map<String, Method> CALLS = new HashMap<>();
    private static final Map<String, Method> MODELS = new HashMap<>();

    static {
        for (Method call : LettersThatCross.class.getDeclaredMethods()) {
            if (java.lang.reflect.Modifier.isPublic(call.getModifiers())) {
                CALLS.put(call.getName(), call);
                MODELS.put(call.getName(), modelOf(call));
            }
        }
    }

    private Run() { }

    private static Method modelOf(Method call) {
        try {
            return Model.class.getDeclaredMethod(call.getName(), call.getParameterTypes());
        } catch (NoSuchMethodException e) {
            throw new IllegalStateException("the Model has no " + call, e);
        }
    }

    /** A new object behind these calls. */
    static LettersThatCross made(String calls) {
        LettersThatCross x = new LettersThatCross();
        all(x, calls);
        return x;
    }

    /** The last one's answer of these calls on a new object. */
    static long answer(String calls) {
        return all(new LettersThatCross(), calls);
    }

    /** The last one's answer of these calls on the class's object, or on a Model. */
    static long all(Object x, String calls) {
        long answer = 0;
        for (String each : calls.split("\\|")) {
            String call = each.stripLeading();
            if (call.startsWith("read ") || call.startsWith("tape ")) {
                feed(x, call.substring(5));
                answer = call.startsWith("read ") ? call(x, "text") : call(x, "count", 5);
            } else if (!call.isBlank()) {
                answer = one(x, call.strip().split(" +"));
            }
        }
        return answer;
    }

    private static long one(Object x, String[] words) {
        long[] numbers = new long[words.length - 1];
        for (int i = 0; i < numbers.length; i++) {
            numbers[i] = Long.parseLong(words[i + 1]);
        }
        return call(x, words[0], numbers);
    }

    static long call(Object x, String name, long... numbers) {
        Method call = (x instanceof Model ? MODELS : CALLS).get(name);
        if (call == null || call.getParameterCount() != numbers.length) {
            throw new IllegalArgumentException(name + " of " + numbers.length);
        }
        Object[] given = new Object[numbers.length];
        for (int i = 0; i < given.length; i++) {
            boolean isLong = call.getParameterTypes()[i] == long.class;
            given[i] = isLong ? (Object) numbers[i] : (Object) Math.toIntExact(numbers[i]);
        }
        try {
            return ((Number) call.invoke(x, given)).longValue();
        } catch (IllegalAccessException | InvocationTargetException e) {
            throw new IllegalStateException(name + java.util.Arrays.toString(numbers), e);
        }
    }

    private static void feed(Object x, String text) {
        for (int from = 0; from < text.length(); from += 8) {
            int n = Math.min(8, text.length() - from);
            long bytes = 0;
            for (int i = 0; i < n; i++) {
                bytes = bytes << 8 | text.charAt(from + i);
            }
            call(x, "feed", bytes, n);
        }
    }
}
