import java.io.IOException;
import java.lang.reflect.Array;
import java.lang.reflect.Constructor;
import java.lang.reflect.Field;
import java.lang.reflect.Method;
import java.lang.reflect.Modifier;
import java.nio.file.Files;
import java.nio.file.Path;
import java.util.ArrayDeque;
import java.util.Deque;
import java.util.HashSet;
import java.util.IdentityHashMap;
import java.util.Map;
import java.util.Set;
import java.util.TreeSet;

/** The face, the rules of the language that can be seen from outside, and the room an object takes. */
public final class FormTest {
    private static final String[] FACE = {
        "int processes(int)", "int start(int,int)", "int step(int,int)", "int send(int,int)", "int take(int,int,int)", "int back()",
        "int eventOf(int,int,int)", "int clock(int,int,int)", "int ahead(int,int,int,int)", "int message(int,int)", "int cuts()",
        "int cut(int)", "int which(int)", "int level(int)", "int next(int,int)", "int meet(int,int)", "int join(int,int)",
        "int under(int)", "int value(int,int)", "long ways(int)", "int read(int)", "int holds(int,int)", "int possible(int,int)",
        "int sure(int)", "int around(int,int)", "int slice(int,int)", "int regular(int)", "int least(int,int,int)", "int forget(int)",
        "int mark(int,int,int)", "int line()", "int feed(int)", "int wipe()", "int tell()", "int list(int,int)", "int lay(int,int,long)",
        "long get(int,int)", "int film(int,int)", "int judge(int,int)", "int image()", "int undo()", "int count(int)"
    };
    private static final String[] FORBIDDEN = {
        "throw", "throws", "try", "catch", "finally", "synchronized", "assert", "->", "::", "System\\.(?!arraycopy)", "Random", "Thread",
        "Math\\.\\w+Exact", "package", "protected", "volatile", "native"
    };
    private static final Set<String> LIBRARY = Set.of("java.lang.Object.<init>", "java.lang.System.arraycopy",
            "java.util.Arrays.fill", "java.lang.Math.min", "java.lang.Integer.bitCount");
    private static final Set<String> READERS = Set.of("readCondition", "readAll", "readTest");
    private static final int MOST_DEPTH = 8;
    private static final int MOST_OBJECTS = 100;
    private static final int MOST_ELEMENTS = 13000;

    private final Due due = new Due();

    public static void main(String[] args) throws IOException, IllegalAccessException {
        FormTest test = new FormTest();
        test.face();
        test.constants();
        test.classes();
        test.source(Files.readString(Path.of(System.getProperty("run.cuts.root", "."), "src/main/java/RunCuts.java")));
        test.bytecode();
        test.room();
        test.due.end();
    }

    private void face() {
        due.under("rule 1");
        Set<String> want = new TreeSet<>(Set.of(FACE));
        Set<String> got = new TreeSet<>();
        Set<String> names = new TreeSet<>();
        for (Method method : RunCuts.class.getDeclaredMethods()) {
            if (Modifier.isPublic(method.getModifiers())) {
                got.add(method.toString().replace("public ", "").replace("RunCuts.", ""));
                names.add(method.getName());
            }
        }
        due.isTrue("the face is " + got, got.equals(want));
        for (Method method : RunCuts.class.getDeclaredMethods()) {
            boolean open = Modifier.isPublic(method.getModifiers());
            due.isTrue("private: " + method, open || Modifier.isPrivate(method.getModifiers()));
            due.isTrue("a name of its own: " + method, open || !names.contains(method.getName()));
        }
        Constructor<?>[] constructors = RunCuts.class.getDeclaredConstructors();
        due.is("constructors", constructors.length, 1);
        due.isTrue("public", Modifier.isPublic(constructors[0].getModifiers()) && constructors[0].getParameterCount() == 0);
        due.isTrue("public and final", Modifier.isPublic(RunCuts.class.getModifiers()) && Modifier.isFinal(RunCuts.class.getModifiers()));
    }

    private void constants() throws IllegalAccessException {
        due.under("constants");
        Map<String, Long> want = Map.of("NONE", -1L, "BAD", -2L, "STATE", -3L, "FULL", -4L, "NOT", -5L, "MISSING", -11L,
                "PLACE", -13L, "BELOW", -14L, "VOID", Long.MIN_VALUE);
        int found = 0;
        for (Field field : RunCuts.class.getDeclaredFields()) {
            if (Modifier.isPrivate(field.getModifiers())) {
                continue;
            }
            found++;
            due.isTrue("known: " + field, want.containsKey(field.getName()) && Modifier.isStatic(field.getModifiers()));
            due.is(field.getName(), ((Number) field.get(null)).longValue(), want.getOrDefault(field.getName(), 0L));
            due.isTrue("type of " + field, (field.getType() == long.class) == field.getName().equals("VOID"));
        }
        due.is("how many", found, want.size());
    }

    private void classes() {
        due.under("rules 2, 5, 11");
        Class<?>[] inside = RunCuts.class.getDeclaredClasses();
        due.isTrue("at most twelve classes", inside.length < 12);
        fields(RunCuts.class);
        for (Class<?> one : inside) {
            due.isTrue("static: " + one, Modifier.isStatic(one.getModifiers()) && !Modifier.isPublic(one.getModifiers()));
            fields(one);
            for (Method method : one.getDeclaredMethods()) {
                due.isTrue("seven parameters at most: " + method, method.getParameterCount() <= 7);
                due.isTrue("a name of its own: " + method, !isOfFace(method.getName()));
            }
        }
    }

    private static boolean isOfFace(String name) {
        for (String call : FACE) {
            if (call.contains(" " + name + "(")) {
                return true;
            }
        }
        return false;
    }

    private void fields(Class<?> one) {
        int found = 0;
        for (Field field : one.getDeclaredFields()) {
            boolean fixed = Modifier.isStatic(field.getModifiers());
            found += fixed ? 0 : 1;
            due.isTrue("final: " + field, !fixed || Modifier.isFinal(field.getModifiers()));
        }
        due.isTrue("twenty fields at most: " + one, found <= 20);
    }

    private void source(String source) {
        due.under("rules 4, 6, 11");
        String code = source.replaceAll("(?s)/\\*.*?\\*/", "").replaceAll("//[^\n]*", "");
        for (String word : FORBIDDEN) {
            String pattern = Character.isLetter(word.charAt(0)) ? "(?s).*\\b" + word + ".*" : "(?s).*" + word + ".*";
            boolean whole = word.matches("[a-z]+");
            due.isTrue("no " + word, !code.matches(whole ? "(?s).*\\b" + word + "\\b.*" : pattern));
        }
        due.isTrue("one import", code.split("\\bimport\\b", -1).length == 2 && code.contains("import java.util.Arrays;"));
        due.isTrue("plain signs", source.chars().allMatch(sign -> sign == '\n' || sign >= 32 && sign < 127));
        int from = 0;
        String[] lines = source.split("\n");
        for (int i = 0; i < lines.length; i++) {
            if (lines[i].matches(" {4,8}\\S.*\\) \\{")) {
                from = i;
            }
            if (lines[i].matches(" {4,8}}")) {
                due.isTrue("sixty lines at most, to line " + (i + 1), i - from <= 60 || lines[i].equals("    }"));
            }
        }
    }

    // ---- what javac made

    private void bytecode() throws IOException {
        Bytecode code = new Bytecode();
        code.add(RunCuts.class);
        for (Class<?> one : RunCuts.class.getDeclaredClasses()) {
            code.add(one);
        }
        due.isTrue("methods were found: " + code.calls.size(), code.calls.size() > 100);
        for (String method : code.calls.keySet()) {
            callsOf(code, method);
            due.under("rules 5, 6");
            Set<Integer> used = code.instructions.get(method);
            due.isTrue("no throw in " + method, !used.contains(Bytecode.THROW) && !code.catching.contains(method));
            due.isTrue("no lambda, no lock, no cast in " + method, !used.contains(Bytecode.INVOKE_DYNAMIC)
                    && !used.contains(Bytecode.ENTER_MONITOR) && !used.contains(Bytecode.CHECK_CAST));
            due.isTrue("no static state in " + method, !used.contains(Bytecode.PUT_STATIC) && !method.contains("<clinit>"));
        }
    }

    private void callsOf(Bytecode code, String method) {
        due.under("rule 4");
        for (String called : code.calls.get(method)) {
            due.isTrue(method + " calls " + called, code.calls.containsKey(called) || LIBRARY.contains(bare(called)));
        }
        due.under("rule 8");
        boolean recursive = code.reachedFrom(method).contains(method);
        due.isTrue("recursion only by readers of conditions: " + method, recursive == READERS.contains(simple(method)));
        due.under("rule 11");
        due.isTrue("calls at most eight deep: " + method, code.depthFrom(method, new HashSet<>()) <= MOST_DEPTH);
    }

    private static String bare(String method) {
        return method.substring(0, method.indexOf('('));
    }

    private static String simple(String method) {
        return bare(method).substring(bare(method).lastIndexOf('.') + 1);
    }

    // ---- the room: all objects that hang on one object

    private void room() throws IllegalAccessException {
        due.under("the room");
        RunCuts x = new RunCuts();
        long[] fresh = sizeOf(x);
        due.isTrue("objects: " + fresh[0], fresh[0] <= MOST_OBJECTS);
        due.isTrue("fields and elements: " + fresh[1], fresh[1] <= MOST_ELEMENTS);
        due.is("bytes that the calls make", leastMade(), 0);
        useMuch(x);
        long[] used = sizeOf(x);
        due.is("objects behind many calls", used[0], fresh[0]);
        due.is("elements behind many calls", used[1], fresh[1]);
    }

    /** The least of several rounds: what the machine makes at first use is not the class's. */
    private static long leastMade() {
        long least = Long.MAX_VALUE;
        for (int round = 0; round < 5; round++) {
            RunCuts x = new RunCuts();
            long first = allocated();
            long before = allocated();
            useMuch(x);
            long asking = before - first;
            least = Math.min(least, allocated() - before - asking);
        }
        return least;
    }

    private static long allocated() {
        com.sun.management.ThreadMXBean bean = (com.sun.management.ThreadMXBean) java.lang.management.ManagementFactory.getThreadMXBean();
        return bean.getThreadAllocatedBytes(Thread.currentThread().getId());
    }

    private static void useMuch(RunCuts x) {
        x.processes(4);
        for (int i = 0; i < 20; i++) {
            x.step(i % 4, i);
        }
        Texts.read(x, 0, "c0+c1=c2+c3&!(x0=x1|m>0)");
        for (int i = 0; i < 40; i++) {
            x.start(i % 4, i);
            x.possible(0, i);
            x.slice(0, i);
            x.around(0, i);
            x.ways(i);
            x.line();
            x.film(i % 3, 0);
            x.judge(i % 3, 0);
            x.image();
            x.undo();
        }
    }

    private static long[] sizeOf(Object root) throws IllegalAccessException {
        Map<Object, Boolean> seen = new IdentityHashMap<>();
        Deque<Object> open = new ArrayDeque<>();
        seen.put(root, true);
        open.add(root);
        long elements = 0;
        while (!open.isEmpty()) {
            Object object = open.poll();
            if (object.getClass().isArray()) {
                elements += Array.getLength(object);
                if (!object.getClass().getComponentType().isPrimitive()) {
                    for (Object part : (Object[]) object) {
                        reach(part, seen, open);
                    }
                }
                continue;
            }
            for (Field field : object.getClass().getDeclaredFields()) {
                if (!Modifier.isStatic(field.getModifiers())) {
                    elements++;
                    field.setAccessible(true);
                    reach(field.getType().isPrimitive() ? null : field.get(object), seen, open);
                }
            }
        }
        return new long[] {seen.size(), elements};
    }

    private static void reach(Object object, Map<Object, Boolean> seen, Deque<Object> open) {
        if (object != null && seen.put(object, true) == null) {
            open.add(object);
        }
    }
}
