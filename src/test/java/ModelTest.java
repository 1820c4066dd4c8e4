import java.lang.reflect.InvocationTargetException;
import java.lang.reflect.Method;
import java.lang.reflect.Modifier;
import java.util.ArrayDeque;
import java.util.Deque;
import java.util.HashMap;
import java.util.Map;
import java.util.Random;
import java.util.concurrent.atomic.AtomicInteger;
import java.util.stream.IntStream;

/** Runs of chosen calls, each answered by the class and by the model; the seeds are fixed. */
public final class ModelTest {
    /** The calls, each with the kinds of its numbers; often named ones come often. */
    private static final String[] CALLS = {
        "processes n", "start pv", "step pv", "step pv", "send pv", "send pv", "take pmv", "take pmv", "take pmv", "back",
        "eventOf pkw", "clock pkp", "ahead pkpk", "message mw", "cuts", "cut i", "which d", "level i", "next io",
        "meet ii", "join ii", "under i", "value ip", "ways i", "read c", "holds ci", "possible co", "sure c", "around co",
        "around co", "slice co", "slice co", "regular c", "least cpk", "least cpk", "forget c", "mark pks", "mark pks", "line", "line",
        "feed b", "wipe", "tell", "list lz", "lay lax", "get la", "film lc", "judge lc", "judge lc", "image", "undo",
        "count u", "TEXT", "TEXT", "TEXT", "RUN", "RUN"
    };
    private static final int RUNS = 2500;
    private static final int CALLS_A_RUN = 400;
    private static final Map<String, Method> OF_CLASS = callsOf(RunCuts.class);
    private static final Map<String, Method> OF_MODEL = callsOf(Model.class);

    private final Due due = new Due();
    private final long seed;
    private final Random random;
    private final RunCuts cuts = new RunCuts();
    private final Model model = new Model();
    private final Deque<String> told = new ArrayDeque<>();

    private ModelTest(long seed) {
        this.seed = seed;
        random = new Random(seed);
        due.under("seed " + seed);
    }

    /** Runs know nothing of one another, so all of the machine's cores take their part. */
    public static void main(String[] args) {
        AtomicInteger wrong = new AtomicInteger();
        IntStream.range(0, RUNS).parallel().forEach(seed -> {
            if (wrong.get() < 5) {
                ModelTest test = new ModelTest(seed);
                test.runCalls();
                wrong.addAndGet(test.due.wrong());
            }
        });
        System.out.println(wrong.get() == 0 ? RUNS + " runs are as the model's" : "the model answers otherwise");
        if (wrong.get() != 0) {
            System.exit(1);
        }
    }

    private void runCalls() {
        if (random.nextInt(4) > 0) {
            call("processes", 1 + random.nextInt(4));
        }
        int calls = prepare();
        while (calls < CALLS_A_RUN && due.wrong() == 0) {
            String[] words = CALLS[random.nextInt(CALLS.length)].split(" ");
            calls++;
            if (clearsMuch(words[0]) && random.nextInt(10) > 0) {
                continue;
            }
            if (words[0].equals("TEXT")) {
                calls += feedText(conditionText());
                call("read", random.nextInt(3));
            } else if (words[0].equals("RUN")) {
                calls += feedText(runText());
                call("tell");
            } else if (!isSlow(words[0])) {
                call(words[0], numbers(words.length == 1 ? "" : words[1]));
            }
        }
        if (due.wrong() > 0) {
            System.out.println("seed " + seed + ": that was behind " + told);
        }
    }

    /** Most runs begin with some events and conditions, so that there is something to ask for. */
    private int prepare() {
        int events = random.nextInt(25);
        for (int i = 0; i < events; i++) {
            String sort = CALLS[2 + random.nextInt(7)].split(" ")[0];
            int p = random.nextInt(model.count(0));
            if (sort.equals("take")) {
                call("take", p, random.nextInt(1 + model.count(2)), from(-3, 3));
            } else {
                call(sort, p, from(-3, 3));
            }
        }
        int calls = events;
        for (int c = 0; c < 3; c++) {
            calls += feedText(condition(0));
            call("read", c);
        }
        return calls;
    }

    private static boolean clearsMuch(String name) {
        return name.equals("processes") || name.equals("undo") || name.equals("forget") || name.equals("back");
    }

    /** The model's way to a slice is too slow for most of the greatest lattices. */
    private boolean isSlow(String name) {
        return (name.equals("slice") || name.equals("regular")) && model.cuts() > 150 && random.nextInt(200) > 0;
    }

    private int feedText(String text) {
        call("wipe");
        for (int i = 0; i < text.length(); i++) {
            call("feed", text.charAt(i));
        }
        return text.length() + 1;
    }

    private Object[] numbers(String kinds) {
        Object[] numbers = new Object[kinds.length()];
        for (int i = 0; i < numbers.length; i++) {
            numbers[i] = kinds.charAt(i) == 'x' ? (Object) longNumber() : (Object) number(kinds.charAt(i));
        }
        return numbers;
    }

    private long longNumber() {
        return random.nextInt(3) == 0 ? random.nextLong() : random.nextInt(9);
    }

    private int from(int least, int most) {
        return least + random.nextInt(most - least + 1);
    }

    private int number(char kind) {
        if (random.nextInt(60) == 0) {
            int[] far = {Integer.MIN_VALUE, Integer.MAX_VALUE, -2, 7, 1296, 99999, -100, 100};
            return far[random.nextInt(far.length)];
        }
        int n = model.count(0);
        switch (kind) {
            case 'n': return from(0, 5);
            case 'p': return random.nextInt(25) == 0 ? from(-1, 4) : from(0, n - 1);
            case 'v': return random.nextInt(20) == 0 ? from(-101, 101) : from(-3, 3);
            case 'm': return from(-1, 1 + model.count(2));
            case 'k': return from(0, 5);
            case 'w': return from(-1, 4);
            case 'i': return from(-1, Math.min(1296, model.cuts()));
            case 'o': return random.nextBoolean() ? from(-2, 4) : from(-1, 40);
            case 'd': return digits(n);
            case 'c': return random.nextInt(20) == 0 ? from(-1, 3) : from(0, 2);
            case 's': return random.nextInt(10) == 0 ? from(-1, 2) : from(0, 1);
            case 'b': return from(31, 127);
            case 'l': return random.nextInt(20) == 0 ? from(-1, 3) : from(0, 2);
            case 'z': return random.nextInt(6) == 0 ? from(-2, 21) : from(0, 5);
            case 'a': return random.nextInt(6) == 0 ? from(-1, 20) : from(0, 4);
            case 'u': return from(-1, 7);
            default: throw new IllegalArgumentException("no kind " + kind);
        }
    }

    private int digits(int n) {
        if (random.nextInt(4) == 0) {
            return from(-1, (int) Math.pow(10, n));
        }
        int all = model.cut(model.cuts() - 1);
        int digits = 0;
        for (int ten = 1; ten < 10000; ten *= 10) {
            digits += ten * random.nextInt(all / ten % 10 + 1);
        }
        return digits;
    }

    // ---- texts, mostly right ones

    private String unit() {
        int most = random.nextInt(40) == 0 ? 9 : model.count(0) - 1;
        switch (random.nextInt(5)) {
            case 0: return "x" + from(0, most);
            case 1: return "c" + from(0, most);
            case 2: return "m";
            case 3: return "" + from(0, 4);
            default: return random.nextInt(4) == 0 ? "0" + from(0, 9) : "x" + from(0, most);
        }
    }

    private String sum() {
        StringBuilder text = new StringBuilder(unit());
        while (random.nextInt(3) == 0) {
            text.append(random.nextBoolean() ? '+' : '-').append(unit());
        }
        return text.toString();
    }

    private String test(int depth) {
        int sort = random.nextInt(depth > 6 ? 1 : 5);
        if (sort == 1) {
            return "!" + test(depth + 1);
        }
        if (sort == 2) {
            return "(" + condition(depth + 1) + ")";
        }
        return sum() + "=<>".charAt(random.nextInt(3)) + sum();
    }

    private String condition(int depth) {
        StringBuilder text = new StringBuilder(test(depth));
        while (random.nextInt(3) == 0) {
            text.append(random.nextBoolean() ? '|' : '&').append(test(depth));
        }
        return text.toString();
    }

    private String conditionText() {
        return perhapsSpoilt(condition(0), "xcm0129=<>+-&|!() z");
    }

    private String statement() {
        int most = random.nextInt(30) == 0 ? 9 : model.count(0) - 1;
        int sort = random.nextInt(3);
        String text = "set".charAt(sort) + " " + from(0, most) + (sort == 2 ? " " + from(0, 4) : "");
        return text + " " + (random.nextInt(3) == 0 ? "-" : "") + from(0, random.nextInt(5) == 0 ? 99 : 3);
    }

    private String runText() {
        StringBuilder text = new StringBuilder(statement());
        while (random.nextInt(3) > 0) {
            text.append(';').append(statement());
        }
        return perhapsSpoilt(text.toString(), "set 0129-;z");
    }

    private String perhapsSpoilt(String text, String letters) {
        StringBuilder spoilt = new StringBuilder(text);
        int place = random.nextInt(text.length());
        char letter = letters.charAt(random.nextInt(letters.length()));
        switch (random.nextInt(14)) {
            case 0: spoilt.setCharAt(place, letter); break;
            case 1: spoilt.insert(place, letter); break;
            case 2: spoilt.setLength(place); break;
            case 3: spoilt.deleteCharAt(place); break;
            case 4: spoilt.append(letter); break;
            default: break;
        }
        return spoilt.toString();
    }

    // ---- the same call on both

    private void call(String name, Object... numbers) {
        StringBuilder text = new StringBuilder(name).append('(');
        for (int i = 0; i < numbers.length; i++) {
            if (numbers[i] instanceof Character c) {
                numbers[i] = (int) c;
            }
            text.append(i == 0 ? "" : ", ").append(numbers[i]);
        }
        text.append(')');
        told.add(text.toString());
        due.is(text.toString(), answer(cuts, OF_CLASS, name, numbers), answer(model, OF_MODEL, name, numbers));
    }

    private static long answer(Object object, Map<String, Method> calls, String name, Object[] numbers) {
        try {
            return ((Number) calls.get(name).invoke(object, numbers)).longValue();
        } catch (IllegalAccessException | InvocationTargetException thrown) {
            throw new IllegalStateException(name + " threw", thrown);
        }
    }

    private static Map<String, Method> callsOf(Class<?> one) {
        Map<String, Method> calls = new HashMap<>();
        for (Method method : one.getDeclaredMethods()) {
            if (Modifier.isPublic(method.getModifiers())) {
                calls.put(method.getName(), method);
            }
        }
        return calls;
    }
}
