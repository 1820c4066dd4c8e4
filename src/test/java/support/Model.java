import java.util.ArrayList;
import java.util.HashMap;
import java.util.HashSet;
import java.util.List;
import java.util.Map;
import java.util.Set;
import java.util.TreeSet;
import java.util.regex.Pattern;

/**
 * The document once more, by other and slower ways than the class: the order of events as a
 * closure of pairs, cuts as sets of events, ways one by one, slices by joining until nothing
 * new comes, faults by trying whether a text could go on. Methods bear the names of the calls.
 */
public final class Model {
    static final int NONE = -1, BAD = -2, STATE = -3, FULL = -4, NOT = -5, MISSING = -11, PLACE = -13, BELOW = -14;
    static final long VOID = Long.MIN_VALUE;

    record Event(int p, int k, int sort, int m, int v) {
    }

    /** What an image holds. */
    private static final class World {
        int n = 2;
        int[] starts = new int[4];
        List<Event> events = new ArrayList<>();
        Set<Event> marked = new HashSet<>();
        String[] conditions = new String[3];

        World copy() {
            World w = new World();
            w.n = n;
            w.starts = starts.clone();
            w.events = new ArrayList<>(events);
            w.marked = new HashSet<>(marked);
            w.conditions = conditions.clone();
            return w;
        }
    }

    private World w = new World();
    private World kept = null;
    private StringBuilder tape = new StringBuilder();
    private final long[][] lists = new long[3][];
    /** The cuts that hold, found for these events of so many processes. */
    private List<Integer> held = List.of();
    private List<Event> heldOf = null;
    private int heldOfProcesses = 0;

    // ---- the run

    private boolean isP(int p) {
        return 0 <= p && p < w.n;
    }

    private static boolean isV(int v) {
        return Math.abs((long) v) <= 99;
    }

    private int eventsOf(int p) {
        int found = 0;
        for (Event e : w.events) {
            found += e.p == p ? 1 : 0;
        }
        return found;
    }

    private Event find(int p, int k) {
        for (Event e : w.events) {
            if (e.p == p && e.k == k) {
                return e;
            }
        }
        return null;
    }

    private Event sends(int m) {
        for (Event e : w.events) {
            if (e.sort == 1 && e.m == m) {
                return e;
            }
        }
        return null;
    }

    private Event takes(int m) {
        for (Event e : w.events) {
            if (e.sort == 2 && e.m == m) {
                return e;
            }
        }
        return null;
    }

    private int messages() {
        int found = 0;
        for (Event e : w.events) {
            found += e.sort == 1 ? 1 : 0;
        }
        return found;
    }

    public int processes(int n) {
        if (n < 1 || n > 4) return BAD;
        int were = w.n;
        w = new World();
        w.n = n;
        return were;
    }

    public int start(int p, int v) {
        if (!isP(p)) return NONE;
        if (!isV(v)) return BAD;
        int was = w.starts[p];
        w.starts[p] = v;
        return was + 100;
    }

    public int step(int p, int v) {
        if (!isP(p)) return NONE;
        if (!isV(v)) return BAD;
        if (eventsOf(p) == 5) return FULL;
        w.events.add(new Event(p, eventsOf(p) + 1, 0, -5, v));
        return eventsOf(p);
    }

    public int send(int p, int v) {
        if (!isP(p)) return NONE;
        if (!isV(v)) return BAD;
        if (eventsOf(p) == 5 || messages() == 8) return FULL;
        w.events.add(new Event(p, eventsOf(p) + 1, 1, messages(), v));
        return messages() - 1;
    }

    public int take(int p, int m, int v) {
        if (!isP(p) || sends(m) == null) return NONE;
        if (!isV(v)) return BAD;
        if (takes(m) != null) return STATE;
        if (eventsOf(p) == 5) return FULL;
        w.events.add(new Event(p, eventsOf(p) + 1, 2, m, v));
        return eventsOf(p);
    }

    public int back() {
        if (w.events.isEmpty()) return STATE;
        w.marked.remove(w.events.remove(w.events.size() - 1));
        return w.events.size();
    }

    public int eventOf(int p, int k, int what) {
        Event e = find(p, k);
        if (e == null || what < 0 || what > 3) return NONE;
        return what == 0 ? e.sort : what == 1 ? e.v + 100 : what == 2 ? e.m : w.marked.contains(e) ? 1 : 0;
    }

    /** For each event the events that are ahead of it, as bits by where they were told. */
    private int[] pasts() {
        int size = w.events.size();
        boolean[][] before = new boolean[size][size];
        for (int i = 0; i < size; i++) {
            for (int j = 0; j < size; j++) {
                Event a = w.events.get(i);
                Event b = w.events.get(j);
                before[i][j] = a.p == b.p && a.k < b.k || a.sort == 1 && b.sort == 2 && a.m == b.m;
            }
        }
        for (int by = 0; by < size; by++) {
            for (int i = 0; i < size; i++) {
                for (int j = 0; j < size; j++) {
                    before[i][j] |= before[i][by] && before[by][j];
                }
            }
        }
        int[] pasts = new int[size];
        for (int i = 0; i < size; i++) {
            for (int j = 0; j < size; j++) {
                pasts[j] |= before[i][j] ? 1 << i : 0;
            }
        }
        return pasts;
    }

    private boolean isAhead(Event a, Event b) {
        return (pasts()[w.events.indexOf(b)] >> w.events.indexOf(a) & 1) == 1;
    }

    public int clock(int p, int k, int q) {
        Event e = find(p, k);
        if (e == null || !isP(q)) return NONE;
        int found = 0;
        for (Event a : w.events) {
            found += a.p == q && (a == e || isAhead(a, e)) ? 1 : 0;
        }
        return found;
    }

    public int ahead(int p, int k, int q, int l) {
        Event a = find(p, k);
        Event b = find(q, l);
        if (a == null || b == null) return NONE;
        return isAhead(a, b) ? 1 : isAhead(b, a) ? 2 : 0;
    }

    public int message(int m, int what) {
        if (sends(m) == null || what < 0 || what > 3) return NONE;
        Event e = what < 2 ? sends(m) : takes(m);
        return e == null ? -5 : what % 2 == 0 ? e.p : e.k;
    }

    // ---- cuts

    private int digit(int digits, int p) {
        int d = digits;
        for (int q = w.n - 1; q > p; q--) {
            d /= 10;
        }
        return d % 10;
    }

    private int setOf(int digits) {
        int set = 0;
        for (int i = 0; i < w.events.size(); i++) {
            Event e = w.events.get(i);
            set |= e.k <= digit(digits, e.p) ? 1 << i : 0;
        }
        return set;
    }

    private boolean isCut(int digits) {
        if (digits < 0 || digits >= (int) Math.pow(10, w.n)) return false;
        for (int p = 0; p < w.n; p++) {
            if (digit(digits, p) > eventsOf(p)) return false;
        }
        return true;
    }

    private boolean isHolding(int digits, int[] pasts) {
        int set = setOf(digits);
        for (int i = 0; i < pasts.length; i++) {
            if ((set >> i & 1) == 1 && (pasts[i] & ~set) != 0) return false;
        }
        return true;
    }

    /** The digits of all cuts that hold, rising. */
    private List<Integer> holding() {
        if (!w.events.equals(heldOf) || w.n != heldOfProcesses) {
            held = findHolding();
            heldOf = List.copyOf(w.events);
            heldOfProcesses = w.n;
        }
        return held;
    }

    private List<Integer> findHolding() {
        List<Integer> found = new ArrayList<>();
        int[] pasts = pasts();
        for (int d = 0; d <= all(); d++) {
            if (isCut(d) && isHolding(d, pasts)) found.add(d);
        }
        return found;
    }

    private int all() {
        int digits = 0;
        for (int p = 0; p < w.n; p++) {
            digits = digits * 10 + eventsOf(p);
        }
        return digits;
    }

    private int one(int p) {
        int one = 1;
        for (int q = w.n - 1; q > p; q--) {
            one *= 10;
        }
        return one;
    }

    public int cuts() {
        return holding().size();
    }

    private static boolean in(List<?> list, int i) {
        return i >= 0 && i < list.size();
    }

    public int cut(int i) {
        List<Integer> h = holding();
        return in(h, i) ? h.get(i) : NONE;
    }

    public int which(int digits) {
        return isCut(digits) ? isHolding(digits, pasts()) ? holding().indexOf(digits) : NOT : NONE;
    }

    public int level(int i) {
        List<Integer> h = holding();
        return in(h, i) ? Integer.bitCount(setOf(h.get(i))) : NONE;
    }

    public int next(int i, int k) {
        List<Integer> h = holding();
        if (!in(h, i) || k < -1) return NONE;
        List<Integer> nexts = new ArrayList<>();
        for (int p = 0; p < w.n; p++) {
            if (digit(h.get(i), p) < eventsOf(p) && h.contains(h.get(i) + one(p))) nexts.add(h.indexOf(h.get(i) + one(p)));
        }
        return k == -1 ? nexts.size() : k < nexts.size() ? nexts.get(k) : NONE;
    }

    private int merge(int a, int b, boolean greater) {
        int digits = 0;
        for (int p = 0; p < w.n; p++) {
            int x = digit(a, p);
            int y = digit(b, p);
            digits = digits * 10 + (greater ? Math.max(x, y) : Math.min(x, y));
        }
        return digits;
    }

    public int meet(int i, int j) {
        List<Integer> h = holding();
        return in(h, i) && in(h, j) ? h.indexOf(merge(h.get(i), h.get(j), false)) : NONE;
    }

    public int join(int i, int j) {
        List<Integer> h = holding();
        return in(h, i) && in(h, j) ? h.indexOf(merge(h.get(i), h.get(j), true)) : NONE;
    }

    private int flying(int digits) {
        int bits = 0;
        for (int m = 0; m < messages(); m++) {
            Event s = sends(m);
            Event t = takes(m);
            if (s.k <= digit(digits, s.p) && (t == null || t.k > digit(digits, t.p))) bits |= 1 << m;
        }
        return bits;
    }

    public int under(int i) {
        List<Integer> h = holding();
        return in(h, i) ? flying(h.get(i)) : NONE;
    }

    private int valueAt(int digits, int p) {
        return digit(digits, p) == 0 ? w.starts[p] : find(p, digit(digits, p)).v;
    }

    public int value(int i, int p) {
        List<Integer> h = holding();
        return in(h, i) && isP(p) ? valueAt(h.get(i), p) + 100 : NONE;
    }

    private long waysFrom(int digits, Set<Integer> h, Map<Integer, Long> known) {
        if (digits == all()) return 1;
        if (known.containsKey(digits)) return known.get(digits);
        long ways = 0;
        for (int p = 0; p < w.n; p++) {
            if (digit(digits, p) < eventsOf(p) && h.contains(digits + one(p))) ways += waysFrom(digits + one(p), h, known);
        }
        known.put(digits, ways);
        return ways;
    }

    private long waysTo(int digits, Set<Integer> h, Map<Integer, Long> known) {
        if (digits == 0) return 1;
        if (known.containsKey(digits)) return known.get(digits);
        long ways = 0;
        for (int p = 0; p < w.n; p++) {
            if (digit(digits, p) > 0 && h.contains(digits - one(p))) ways += waysTo(digits - one(p), h, known);
        }
        known.put(digits, ways);
        return ways;
    }

    public long ways(int i) {
        List<Integer> h = holding();
        if (i != -1 && !in(h, i)) return VOID;
        Set<Integer> set = new HashSet<>(h);
        int by = i == -1 ? 0 : h.get(i);
        return waysTo(by, set, new HashMap<>()) * waysFrom(by, set, new HashMap<>());
    }

    // ---- conditions: a text is one of the language, if some way of cutting it up is right

    private static int closing(String t, int open) {
        int depth = 0;
        for (int i = open; i < t.length(); i++) {
            depth += t.charAt(i) == '(' ? 1 : t.charAt(i) == ')' ? -1 : 0;
            if (depth == 0) return i;
        }
        return -1;
    }

    /** The parts between the signs that stand in no brackets; null, if brackets do not match. */
    private static List<String> parts(String t, char sign) {
        List<String> parts = new ArrayList<>();
        int from = 0;
        for (int i = 0; i < t.length(); i++) {
            if (t.charAt(i) == '(') {
                i = closing(t, i);
                if (i < 0) return null;
            } else if (t.charAt(i) == sign) {
                parts.add(t.substring(from, i));
                from = i + 1;
            }
        }
        parts.add(t.substring(from));
        return parts;
    }

    /** Met 1, not met 0, no such text -1; without a cut (digits -1) any value stands for it. */
    private int either(String t, int depth, int digits) {
        return combine(t, '|', depth, digits);
    }

    private int combine(String t, char sign, int depth, int digits) {
        List<String> parts = parts(t, sign);
        if (parts == null) return -1;
        boolean any = false;
        boolean all = true;
        for (String part : parts) {
            int met = sign == '|' ? combine(part, '&', depth, digits) : test(part, depth, digits);
            if (met < 0) return -1;
            any |= met == 1;
            all &= met == 1;
        }
        return (sign == '|' ? any : all) ? 1 : 0;
    }

    private int test(String t, int depth, int digits) {
        if (depth > 5) return -1;
        if (t.startsWith("!")) {
            int met = test(t.substring(1), depth + 1, digits);
            return depth == 5 || met < 0 ? -1 : 1 - met;
        }
        if (t.startsWith("(")) {
            if (depth == 5 || closing(t, 0) != t.length() - 1) return -1;
            return either(t.substring(1, t.length() - 1), depth + 1, digits);
        }
        String[] sums = COMPARES.split(t, -1);
        Pattern sum = SUMS.get(w.n - 1);
        if (sums.length != 2 || !sum.matcher(sums[0]).matches() || !sum.matcher(sums[1]).matches()) return -1;
        int a = sum(sums[0], digits);
        int b = sum(sums[1], digits);
        char sign = t.charAt(sums[0].length());
        return sign == '=' && a == b || sign == '<' && a < b || sign == '>' && a > b ? 1 : 0;
    }

    private static final Pattern COMPARES = Pattern.compile("[=<>]");
    private static final Pattern SIGNS_AHEAD = Pattern.compile("(?=[+-])");
    /** Sums for one process, for two, .. */
    private static final List<Pattern> SUMS = List.of(sums(0), sums(1), sums(2), sums(3));

    private static Pattern sums(int last) {
        String unit = "(x[0-" + last + "]|c[0-" + last + "]|m|[0-9][0-9]?)";
        return Pattern.compile(unit + "([+-]" + unit + ")*");
    }

    private int sum(String t, int digits) {
        int sum = 0;
        for (String unit : SIGNS_AHEAD.split(t)) {
            int by = unit.startsWith("-") ? -1 : 1;
            String u = unit.startsWith("-") || unit.startsWith("+") ? unit.substring(1) : unit;
            char first = u.charAt(0);
            if (first == 'x') sum += by * (digits < 0 ? 0 : valueAt(digits, u.charAt(1) - '0'));
            else if (first == 'c') sum += by * (digits < 0 ? 0 : digit(digits, u.charAt(1) - '0'));
            else if (first == 'm') sum += by * (digits < 0 ? 0 : Integer.bitCount(flying(digits)));
            else sum += by * Integer.parseInt(u);
        }
        return sum;
    }

    private boolean isCondition(String t) {
        return either(t, 0, -1) >= 0;
    }

    private static final String[] CONDITION_ENDS = {"", "0", "=0", "0=0"};

    private boolean goesOnAsCondition(String t) {
        String brackets = "";
        for (int i = 0; i <= 5; i++) {
            for (String end : CONDITION_ENDS) {
                if (isCondition(t + end + brackets)) return true;
            }
            brackets += ")";
        }
        return false;
    }

    private int conditionFault(String t) {
        for (int i = 0; i < t.length(); i++) {
            if (!goesOnAsCondition(t.substring(0, i + 1))) return i;
        }
        return t.length();
    }

    public int read(int c) {
        if (c < 0 || c > 2) return NONE;
        String t = tape.toString();
        tape.setLength(0);
        if (!isCondition(t)) return -100 - conditionFault(t);
        w.conditions[c] = t;
        return t.length();
    }

    private int lack(int c, boolean rest) {
        return c < 0 || c > 2 || !rest ? NONE : w.conditions[c] == null ? STATE : 0;
    }

    private boolean meets(int c, int digits) {
        return either(w.conditions[c], 0, digits) == 1;
    }

    /** The numbers of the cuts that meet condition c. */
    private List<Integer> meeting(int c) {
        List<Integer> h = holding();
        List<Integer> found = new ArrayList<>();
        for (int i = 0; i < h.size(); i++) {
            if (meets(c, h.get(i))) found.add(i);
        }
        return found;
    }

    public int holds(int c, int i) {
        List<Integer> h = holding();
        int lack = lack(c, in(h, i));
        return lack != 0 ? lack : meets(c, h.get(i)) ? 1 : 0;
    }

    private static int pick(List<Integer> list, int k) {
        return k == -1 ? list.size() : k < list.size() ? list.get(k) : NOT;
    }

    public int possible(int c, int k) {
        int lack = lack(c, k >= -1);
        return lack != 0 ? lack : pick(meeting(c), k);
    }

    /** Goes on from a cut by the least process first; what leads nowhere is remembered. */
    private boolean walk(int digits, Set<Integer> free, Set<Integer> dead, List<Integer> steps) {
        if (!free.contains(digits) || dead.contains(digits)) return false;
        if (digits == all()) return true;
        for (int p = 0; p < w.n; p++) {
            if (digit(digits, p) < eventsOf(p)) {
                steps.add(p);
                if (walk(digits + one(p), free, dead, steps)) return true;
                steps.remove(steps.size() - 1);
            }
        }
        dead.add(digits);
        return false;
    }

    private List<Integer> wayAround(int c) {
        Set<Integer> free = new HashSet<>();
        for (int digits : holding()) {
            if (!meets(c, digits)) free.add(digits);
        }
        List<Integer> steps = new ArrayList<>();
        return walk(0, free, new HashSet<>(), steps) ? steps : null;
    }

    public int sure(int c) {
        int lack = lack(c, true);
        return lack != 0 ? lack : wayAround(c) == null ? 1 : 0;
    }

    public int around(int c, int k) {
        int lack = lack(c, k >= -1);
        if (lack != 0) return lack;
        List<Integer> steps = wayAround(c);
        return steps == null ? NOT : pick(steps, k);
    }

    private List<Integer> sliceOf(int c) {
        List<Integer> h = holding();
        Set<Integer> all = new HashSet<>();
        List<Integer> found = new ArrayList<>();
        for (int i : meeting(c)) {
            if (all.add(h.get(i))) found.add(h.get(i));
        }
        for (int i = 0; i < found.size(); i++) {
            for (int j = 0; j < i; j++) {
                int low = merge(found.get(i), found.get(j), false);
                int high = merge(found.get(i), found.get(j), true);
                if (all.add(low)) found.add(low);
                if (all.add(high)) found.add(high);
            }
        }
        List<Integer> numbers = new ArrayList<>();
        for (int digits : new TreeSet<>(found)) {
            numbers.add(h.indexOf(digits));
        }
        return numbers;
    }

    public int slice(int c, int k) {
        int lack = lack(c, k >= -1);
        return lack != 0 ? lack : pick(sliceOf(c), k);
    }

    public int regular(int c) {
        int lack = lack(c, true);
        return lack != 0 ? lack : sliceOf(c).equals(meeting(c)) ? 1 : 0;
    }

    public int least(int c, int p, int k) {
        int lack = lack(c, find(p, k) != null);
        if (lack != 0) return lack;
        List<Integer> h = holding();
        int least = -1;
        for (int i : meeting(c)) {
            if (digit(h.get(i), p) >= k) least = least < 0 ? h.get(i) : merge(least, h.get(i), false);
        }
        return least < 0 ? NOT : h.indexOf(least);
    }

    public int forget(int c) {
        int lack = lack(c, true);
        if (lack != 0) return lack;
        w.conditions[c] = null;
        return 1;
    }

    // ---- marks

    public int mark(int p, int k, int is) {
        Event e = find(p, k);
        if (e == null) return NONE;
        if (is != 0 && is != 1) return BAD;
        int was = w.marked.contains(e) ? 1 : 0;
        if (is == 1) w.marked.add(e);
        else w.marked.remove(e);
        return was;
    }

    public int line() {
        List<Integer> h = holding();
        int best = 0;
        for (int i = 0; i < h.size(); i++) {
            boolean ends = true;
            for (int p = 0; p < w.n; p++) {
                int k = digit(h.get(i), p);
                ends &= k == 0 || w.marked.contains(find(p, k));
            }
            if (ends && Integer.bitCount(setOf(h.get(i))) > Integer.bitCount(setOf(h.get(best)))) best = i;
        }
        return best;
    }

    // ---- texts, lists, the image

    public int feed(int letter) {
        if (letter < 32 || letter > 126) return BAD;
        if (tape.length() == 60) return FULL;
        tape.append((char) letter);
        return tape.length();
    }

    public int wipe() {
        int had = tape.length();
        tape.setLength(0);
        return had;
    }

    private boolean isRun(String t) {
        String p = " [0-" + (w.n - 1) + "]";
        String v = " -?[0-9][0-9]?";
        String statement = "([se]" + p + v + "|t" + p + " [0-9]" + v + ")";
        return t.matches(statement + "(;" + statement + ")*");
    }

    private static final String[] RUN_ENDS = {"", "0", " 0", " 0 0", " 0 0 0", "0 0", "0 0 0", "s 0 0"};

    private boolean goesOnAsRun(String t) {
        for (String end : RUN_ENDS) {
            if (isRun(t + end)) return true;
        }
        return false;
    }

    private int runFault(String t) {
        for (int i = 0; i < t.length(); i++) {
            if (!goesOnAsRun(t.substring(0, i + 1))) return i;
        }
        return t.length();
    }

    public int tell() {
        String t = tape.toString();
        tape.setLength(0);
        if (!isRun(t)) return -100 - runFault(t);
        String[] statements = t.split(";");
        for (int i = 0; i < statements.length; i++) {
            String[] words = statements[i].split(" ");
            int p = Integer.parseInt(words[1]);
            int v = Integer.parseInt(words[words.length - 1]);
            int answer = words[0].equals("s") ? step(p, v) : words[0].equals("e") ? send(p, v)
                    : take(p, Integer.parseInt(words[2]), v);
            if (answer < 0) return -300 - i;
        }
        return statements.length;
    }

    private static boolean isList(int list) {
        return list >= 0 && list <= 2;
    }

    public int list(int list, int n) {
        if (!isList(list)) return NONE;
        if (n > 20) return BAD;
        if (n < -1) return BELOW;
        lists[list] = n == -1 ? null : new long[n];
        return 1;
    }

    public int lay(int list, int i, long v) {
        if (!isList(list)) return NONE;
        if (lists[list] == null) return MISSING;
        if (i < 0 || i >= lists[list].length) return PLACE;
        lists[list][i] = v;
        return 1;
    }

    public long get(int list, int i) {
        return !isList(list) || lists[list] == null || i < 0 || i >= lists[list].length ? VOID : lists[list][i];
    }

    public int film(int list, int c) {
        int lack = lack(c, isList(list));
        if (lack != 0) return lack;
        List<Integer> found = meeting(c);
        lists[list] = new long[Math.min(20, found.size())];
        for (int i = 0; i < lists[list].length; i++) {
            lists[list][i] = found.get(i);
        }
        return lists[list].length;
    }

    public int judge(int list, int c) {
        if (!isList(list) || c < 0 || c > 2) return NONE;
        if (lists[list] == null) return MISSING;
        if (w.conditions[c] == null) return STATE;
        List<Integer> found = meeting(c);
        for (int i = 0; i < lists[list].length; i++) {
            if (i >= found.size() || lists[list][i] != found.get(i)) return i;
        }
        return 100 + lists[list].length;
    }

    public int image() {
        kept = w.copy();
        return w.events.size();
    }

    public int undo() {
        if (kept == null) return STATE;
        w = kept.copy();
        return w.events.size();
    }

    public int count(int what) {
        int found = 0;
        switch (what) {
            case 0: return w.n;
            case 1: return w.events.size();
            case 2: return messages();
            case 3: return w.marked.size();
            case 4:
                for (String t : w.conditions) found += t == null ? 0 : 1;
                return found;
            case 5: return tape.length();
            case 6:
                for (long[] l : lists) found += l == null ? 0 : 1;
                return found;
            default: return NONE;
        }
    }
}
