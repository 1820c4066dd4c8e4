import java.lang.reflect.InvocationTargetException;
import java.lang.reflect.Method;
import java.lang.reflect.Modifier;
import java.util.HashMap;
import java.util.Map;

/**
 * An object that is asked by lines: "take 1 0 -7" is a call, "TAPE x0=1" feeds a text, "5* step 0 1"
 * is a call five times. MIN and MAX are the least and the greatest int, LEAST and MOST the least
 * and the greatest long.
 */
final class Asked {
    private static final int MOST_CALLS = 512;
    private static final String TAPE = "TAPE ";
    private static final Map<String, Long> WORDS = Map.of("MIN", (long) Integer.MIN_VALUE, "MAX", (long) Integer.MAX_VALUE,
            "LEAST", Long.MIN_VALUE, "MOST", Long.MAX_VALUE);
    private static final Map<String, Method> CALLS = new HashMap<>();

    static {
        for (Method method : RunCuts.class.getDeclaredMethods()) {
            if (Modifier.isPublic(method.getModifiers())) {
                CALLS.put(method.getName(), method);
            }
        }
    }

    private final RunCuts cuts = new RunCuts();
    private int calls = 0;

    /** The answer; of several calls the last one. */
    long ask(String line) {
        if (line.startsWith(TAPE)) {
            return feed(line.substring(TAPE.length()));
        }
        int star = line.indexOf("* ");
        int times = star < 0 ? 1 : Integer.parseInt(line.substring(0, star));
        String[] words = line.substring(star < 0 ? 0 : star + 2).split(" ");
        long answer = 0;
        for (int i = 0; i < times; i++) {
            answer = call(words);
        }
        return answer;
    }

    private long feed(String text) {
        long answer = 0;
        for (int i = 0; i < text.length(); i++) {
            note();
            answer = cuts.feed(text.charAt(i));
        }
        return answer;
    }

    private long call(String[] words) {
        Method method = CALLS.get(words[0]);
        if (method == null || method.getParameterCount() != words.length - 1) {
            throw new IllegalArgumentException("no such call: " + String.join(" ", words));
        }
        Object[] numbers = new Object[words.length - 1];
        for (int i = 0; i < numbers.length; i++) {
            long number = number(words[i + 1]);
            numbers[i] = method.getParameterTypes()[i] == int.class ? (Object) Math.toIntExact(number) : (Object) number;
        }
        note();
        try {
            return ((Number) method.invoke(cuts, numbers)).longValue();
        } catch (IllegalAccessException | InvocationTargetException thrown) {
            throw new IllegalStateException(String.join(" ", words) + " threw", thrown);
        }
    }

    static long number(String word) {
        return WORDS.containsKey(word) ? WORDS.get(word) : Long.parseLong(word);
    }

    /** Nothing is promised of later calls, so no test may stand on them. */
    private void note() {
        calls++;
        if (calls > MOST_CALLS) {
            throw new IllegalStateException("a test uses an object for more than " + MOST_CALLS + " calls");
        }
    }
}
