import java.util.Arrays;

/** Cuts of distributed runs; the project's document tells what each call promises. */
public final class RunCuts {
    public static final int NONE = -1, BAD = -2, STATE = -3, FULL = -4, NOT = -5, MISSING = -11, PLACE = -13, BELOW = -14;
    public static final long VOID = Long.MIN_VALUE;

    private static final int MOST_PROCESSES = 4;
    private static final int MOST_EVENTS = 5;
    private static final int MOST_EVENTS_IN_ALL = 20;
    private static final int MOST_MESSAGES = 8;
    private static final int MOST_VALUE = 99;
    private static final int MOST_CUTS = 1296;
    private static final int MOST_BYTES = 60;
    private static final int MOST_DEPTH = 5;
    private static final int MOST_LONGS = 20;
    private static final int CONDITIONS = 3;
    private static final int LISTS = 3;

    private static final int VALUE_OFFSET = 100;
    private static final int FAULT_OFFSET = -100;
    private static final int REFUSED_OFFSET = -300;
    private static final int ALL_JUDGED_OFFSET = 100;

    private static final int STEP = 0;
    private static final int SENDS = 1;
    private static final int TAKES = 2;

    private final Run run = new Run();
    private final Run runOfImage = new Run();
    private final Condition[] conditions = new Condition[CONDITIONS];
    private final Condition[] conditionsOfImage = new Condition[CONDITIONS];
    private final Survey[] surveys = new Survey[CONDITIONS];
    private final LongRow[] lists = new LongRow[LISTS];
    private final Lattice lattice;
    private final Tape tape = new Tape();
    private final ConditionReader conditionReader;
    private final RunReader runReader;
    private boolean hasImage = false;

    public RunCuts() {
        lattice = new Lattice(run);
        conditionReader = new ConditionReader(tape, run);
        runReader = new RunReader(tape, run);
        for (int c = 0; c < CONDITIONS; c++) {
            conditions[c] = new Condition();
            conditionsOfImage[c] = new Condition();
            surveys[c] = new Survey(conditions[c], lattice, run);
        }
        for (int i = 0; i < LISTS; i++) {
            lists[i] = new LongRow();
        }
    }

    // ---- the run

    public int processes(int n) {
        if (n < 1 || n > MOST_PROCESSES) {
            return BAD;
        }
        int were = run.processes;
        run.beginWith(n);
        for (int c = 0; c < CONDITIONS; c++) {
            conditions[c].told = false;
        }
        noteChange();
        return were;
    }

    public int start(int p, int v) {
        if (!run.hasProcess(p)) {
            return NONE;
        }
        if (!isValue(v)) {
            return BAD;
        }
        int was = run.starts[p];
        run.starts[p] = v;
        noteValues();
        return was + VALUE_OFFSET;
    }

    public int step(int p, int v) {
        if (!run.hasProcess(p)) {
            return NONE;
        }
        if (!isValue(v)) {
            return BAD;
        }
        if (run.isFullAt(p)) {
            return FULL;
        }
        run.append(p, STEP, NOT, v);
        noteChange();
        return run.events[p];
    }

    public int send(int p, int v) {
        if (!run.hasProcess(p)) {
            return NONE;
        }
        if (!isValue(v)) {
            return BAD;
        }
        if (run.isFullAt(p) || run.messages >= MOST_MESSAGES) {
            return FULL;
        }
        int m = run.openMessage(p);
        run.append(p, SENDS, m, v);
        noteChange();
        return m;
    }

    public int take(int p, int m, int v) {
        if (!run.hasProcess(p) || !run.hasMessage(m)) {
            return NONE;
        }
        if (!isValue(v)) {
            return BAD;
        }
        if (run.isTaken(m)) {
            return STATE;
        }
        if (run.isFullAt(p)) {
            return FULL;
        }
        run.append(p, TAKES, m, v);
        run.closeMessage(m, p);
        noteChange();
        return run.events[p];
    }

    public int back() {
        if (run.total == 0) {
            return STATE;
        }
        run.removeLast();
        noteChange();
        return run.total;
    }

    public int eventOf(int p, int k, int what) {
        if (!run.hasEvent(p, k)) {
            return NONE;
        }
        int spot = Run.spotOf(p, k);
        switch (what) {
            case 0:
                return run.sorts[spot];
            case 1:
                return run.values[spot] + VALUE_OFFSET;
            case 2:
                return run.carried[spot];
            case 3:
                return run.marks[spot];
            default:
                return NONE;
        }
    }

    public int clock(int p, int k, int q) {
        if (!run.hasEvent(p, k) || !run.hasProcess(q)) {
            return NONE;
        }
        return Row.at(run.clockOf(p, k), run.placeOf(q));
    }

    public int ahead(int p, int k, int q, int l) {
        if (!run.hasEvent(p, k) || !run.hasEvent(q, l)) {
            return NONE;
        }
        if (p == q && k == l) {
            return 0;
        }
        if (Row.at(run.clockOf(q, l), run.placeOf(p)) >= k) {
            return 1;
        }
        return Row.at(run.clockOf(p, k), run.placeOf(q)) >= l ? 2 : 0;
    }

    public int message(int m, int what) {
        if (!run.hasMessage(m)) {
            return NONE;
        }
        switch (what) {
            case 0:
                return run.senders[m];
            case 1:
                return run.sentAs[m];
            case 2:
                return run.takers[m];
            case 3:
                return run.takenAs[m];
            default:
                return NONE;
        }
    }

    // ---- cuts

    public int cuts() {
        return freshLattice().size;
    }

    public int cut(int i) {
        return hasCut(i) ? Row.decimal(lattice.rows[i]) : NONE;
    }

    public int which(int digits) {
        int row = run.rowOfDigits(digits);
        if (row < 0) {
            return NONE;
        }
        int number = freshLattice().numberOf(row);
        return number < 0 ? NOT : number;
    }

    public int level(int i) {
        return hasCut(i) ? Row.sum(lattice.rows[i]) : NONE;
    }

    public int next(int i, int k) {
        if (!hasCut(i) || k < -1) {
            return NONE;
        }
        int found = 0;
        for (int p = 0; p < run.processes; p++) {
            int number = lattice.successor(i, p);
            if (number >= 0 && found == k) {
                return number;
            }
            if (number >= 0) {
                found++;
            }
        }
        return k == -1 ? found : NONE;
    }

    public int meet(int i, int j) {
        if (!hasCut(i) || !hasCut(j)) {
            return NONE;
        }
        return lattice.numberOf(Row.lesser(lattice.rows[i], lattice.rows[j]));
    }

    public int join(int i, int j) {
        if (!hasCut(i) || !hasCut(j)) {
            return NONE;
        }
        return lattice.numberOf(Row.greater(lattice.rows[i], lattice.rows[j]));
    }

    public int under(int i) {
        return hasCut(i) ? run.underWay(lattice.rows[i]) : NONE;
    }

    public int value(int i, int p) {
        if (!hasCut(i) || !run.hasProcess(p)) {
            return NONE;
        }
        return run.valueIn(lattice.rows[i], p) + VALUE_OFFSET;
    }

    public long ways(int i) {
        if (i == -1) {
            return freshLattice().waysBy(0);
        }
        return hasCut(i) ? lattice.waysBy(i) : VOID;
    }

    // ---- conditions

    public int read(int c) {
        if (!isCondition(c)) {
            return NONE;
        }
        conditionReader.begin();
        boolean whole = conditionReader.readCondition(0) && tape.isAtEnd();
        int place = tape.place;
        tape.clear();
        if (!whole) {
            return FAULT_OFFSET - place;
        }
        conditionReader.handTo(conditions[c]);
        surveys[c].stale = true;
        return place;
    }

    public int holds(int c, int i) {
        int lack = lackOf(c, hasCut(i));
        return lack != 0 ? lack : freshSurvey(c).meetsAt(i);
    }

    public int possible(int c, int k) {
        int lack = lackOf(c, k >= -1);
        return lack != 0 ? lack : freshSurvey(c).pickMet(k);
    }

    public int sure(int c) {
        int lack = lackOf(c, true);
        if (lack != 0) {
            return lack;
        }
        return freshSurvey(c).hasWayRound() ? 0 : 1;
    }

    public int around(int c, int k) {
        int lack = lackOf(c, k >= -1);
        return lack != 0 ? lack : freshSurvey(c).stepRound(k);
    }

    public int slice(int c, int k) {
        int lack = lackOf(c, k >= -1);
        return lack != 0 ? lack : freshSurvey(c).pickSliced(k);
    }

    public int regular(int c) {
        int lack = lackOf(c, true);
        if (lack != 0) {
            return lack;
        }
        return freshSurvey(c).isExact() ? 1 : 0;
    }

    public int least(int c, int p, int k) {
        int lack = lackOf(c, run.hasEvent(p, k));
        return lack != 0 ? lack : freshSurvey(c).leastWith(p, k);
    }

    public int forget(int c) {
        int lack = lackOf(c, true);
        if (lack != 0) {
            return lack;
        }
        conditions[c].told = false;
        return 1;
    }

    // ---- marks

    public int mark(int p, int k, int is) {
        if (!run.hasEvent(p, k)) {
            return NONE;
        }
        if (is != 0 && is != 1) {
            return BAD;
        }
        int spot = Run.spotOf(p, k);
        int was = run.marks[spot];
        run.marks[spot] = is;
        return was;
    }

    public int line() {
        int last = freshLattice().size - 1;
        for (int i = last; i > 0; i--) {
            if (run.endsInMarks(lattice.rows[i])) {
                return i;
            }
        }
        return 0;
    }

    // ---- texts, lists, the image

    public int feed(int letter) {
        if (letter < 32 || letter > 126) {
            return BAD;
        }
        if (tape.length >= MOST_BYTES) {
            return FULL;
        }
        tape.append(letter);
        return tape.length;
    }

    public int wipe() {
        int had = tape.length;
        tape.clear();
        return had;
    }

    public int tell() {
        int answer = runReader.readsWhole() ? doStatements() : FAULT_OFFSET - tape.place;
        tape.clear();
        return answer;
    }

    public int list(int list, int n) {
        if (!isList(list)) {
            return NONE;
        }
        if (n > MOST_LONGS) {
            return BAD;
        }
        if (n < -1) {
            return BELOW;
        }
        lists[list].resize(n);
        return 1;
    }

    public int lay(int list, int i, long v) {
        if (!isList(list)) {
            return NONE;
        }
        if (lists[list].isMissing()) {
            return MISSING;
        }
        if (!lists[list].hasPlace(i)) {
            return PLACE;
        }
        lists[list].longs[i] = v;
        return 1;
    }

    public long get(int list, int i) {
        if (!isList(list) || !lists[list].hasPlace(i)) {
            return VOID;
        }
        return lists[list].longs[i];
    }

    public int film(int list, int c) {
        int lack = lackOf(c, isList(list));
        return lack != 0 ? lack : freshSurvey(c).copyMetTo(lists[list]);
    }

    public int judge(int list, int c) {
        if (!isList(list) || !isCondition(c)) {
            return NONE;
        }
        if (lists[list].isMissing()) {
            return MISSING;
        }
        if (!conditions[c].told) {
            return STATE;
        }
        return freshSurvey(c).judgeOf(lists[list]);
    }

    public int image() {
        runOfImage.copyFrom(run);
        for (int c = 0; c < CONDITIONS; c++) {
            conditionsOfImage[c].copyFrom(conditions[c]);
        }
        hasImage = true;
        return run.total;
    }

    public int undo() {
        if (!hasImage) {
            return STATE;
        }
        run.copyFrom(runOfImage);
        for (int c = 0; c < CONDITIONS; c++) {
            conditions[c].copyFrom(conditionsOfImage[c]);
        }
        noteChange();
        return run.total;
    }

    public int count(int what) {
        switch (what) {
            case 0:
                return run.processes;
            case 1:
                return run.total;
            case 2:
                return run.messages;
            case 3:
                return run.marksInAll();
            case 4:
                return conditionsTold();
            case 5:
                return tape.length;
            case 6:
                return listsThere();
            default:
                return NONE;
        }
    }

    // ---- what the calls share

    private static boolean isValue(int v) {
        return v >= -MOST_VALUE && v <= MOST_VALUE;
    }

    private static boolean isCondition(int c) {
        return c >= 0 && c < CONDITIONS;
    }

    private static boolean isList(int list) {
        return list >= 0 && list < LISTS;
    }

    /** Also brings the lattice up to date, so that row i can be used behind it. */
    private boolean hasCut(int i) {
        return i >= 0 && i < freshLattice().size;
    }

    /** NONE or STATE, where a call by condition c is to be refused; otherwise 0. */
    private int lackOf(int c, boolean othersFit) {
        if (!isCondition(c) || !othersFit) {
            return NONE;
        }
        return conditions[c].told ? 0 : STATE;
    }

    private void noteChange() {
        lattice.stale = true;
        noteValues();
    }

    /** Values changed, which the lattice does not know of. */
    private void noteValues() {
        for (int c = 0; c < CONDITIONS; c++) {
            surveys[c].stale = true;
        }
    }

    private Lattice freshLattice() {
        lattice.refresh();
        return lattice;
    }

    private Survey freshSurvey(int c) {
        lattice.refresh();
        surveys[c].refresh();
        return surveys[c];
    }

    private int doStatements() {
        tape.place = 0;
        for (int done = 0; done < MOST_BYTES; done++) {
            if (!runReader.readStatement() || doStatement() < 0) {
                return REFUSED_OFFSET - done;
            }
            if (!tape.accept(';')) {
                return done + 1;
            }
        }
        return MOST_BYTES;
    }

    private int doStatement() {
        if (runReader.sort == STEP) {
            return step(runReader.process, runReader.value);
        }
        if (runReader.sort == SENDS) {
            return send(runReader.process, runReader.value);
        }
        return take(runReader.process, runReader.message, runReader.value);
    }

    private int conditionsTold() {
        int told = 0;
        for (int c = 0; c < CONDITIONS; c++) {
            told += conditions[c].told ? 1 : 0;
        }
        return told;
    }

    private int listsThere() {
        int there = 0;
        for (int i = 0; i < LISTS; i++) {
            there += lists[i].isMissing() ? 0 : 1;
        }
        return there;
    }

    /**
     * Four numbers 0 .. 7 in one int, four bits each, the last process at place 0: a clock, or
     * what is in a cut. The highest bit of each four stays free, so that one subtraction
     * compares all four, and rows are in the order of their digits.
     */
    private static final class Row {
        private static final int FREE_BITS = 0x8888;
        private static final int ALL_PLACES = 0x7777;

        static int one(int place) {
            return 1 << (4 * place);
        }

        static int at(int row, int place) {
            return (row >> (4 * place)) & 7;
        }

        static int without(int row, int place) {
            return row & ~(7 << (4 * place));
        }

        /** Ones at the places at which a is not below b. */
        private static int notBelow(int a, int b) {
            int kept = ((a | FREE_BITS) - b) & FREE_BITS;
            return kept - (kept >> 3);
        }

        static boolean isWithin(int inner, int outer) {
            return notBelow(outer, inner) == ALL_PLACES;
        }

        static int lesser(int a, int b) {
            int mask = notBelow(a, b);
            return (b & mask) | (a & ~mask);
        }

        static int greater(int a, int b) {
            int mask = notBelow(a, b);
            return (a & mask) | (b & ~mask);
        }

        static int sum(int row) {
            return at(row, 0) + at(row, 1) + at(row, 2) + at(row, 3);
        }

        static int decimal(int row) {
            return ((at(row, 3) * 10 + at(row, 2)) * 10 + at(row, 1)) * 10 + at(row, 0);
        }

        /** The row among all rows of numbers 0 .. 5. */
        static int slot(int row) {
            return (((row >> 12 & 7) * 6 + (row >> 8 & 7)) * 6 + (row >> 4 & 7)) * 6 + (row & 7);
        }
    }

    /** Processes with their starts, events, messages and marks. */
    private static final class Run {
        int processes = 2;
        int total = 0;
        int messages = 0;
        final int[] starts = new int[MOST_PROCESSES];
        final int[] events = new int[MOST_PROCESSES];
        /** The process of each event, as they were told. */
        final int[] order = new int[MOST_EVENTS_IN_ALL];
        final int[] sorts = new int[MOST_EVENTS_IN_ALL];
        final int[] values = new int[MOST_EVENTS_IN_ALL];
        /** The message that an event sends or takes, NOT for a step. */
        final int[] carried = new int[MOST_EVENTS_IN_ALL];
        final int[] marks = new int[MOST_EVENTS_IN_ALL];
        final int[] clocks = new int[MOST_EVENTS_IN_ALL];
        final int[] senders = new int[MOST_MESSAGES];
        final int[] sentAs = new int[MOST_MESSAGES];
        /** NOT for a message that is not taken. */
        final int[] takers = new int[MOST_MESSAGES];
        final int[] takenAs = new int[MOST_MESSAGES];

        void beginWith(int n) {
            processes = n;
            total = 0;
            messages = 0;
            Arrays.fill(starts, 0);
            Arrays.fill(events, 0);
        }

        void copyFrom(Run other) {
            processes = other.processes;
            total = other.total;
            messages = other.messages;
            System.arraycopy(other.starts, 0, starts, 0, MOST_PROCESSES);
            System.arraycopy(other.events, 0, events, 0, MOST_PROCESSES);
            System.arraycopy(other.order, 0, order, 0, MOST_EVENTS_IN_ALL);
            System.arraycopy(other.sorts, 0, sorts, 0, MOST_EVENTS_IN_ALL);
            System.arraycopy(other.values, 0, values, 0, MOST_EVENTS_IN_ALL);
            System.arraycopy(other.carried, 0, carried, 0, MOST_EVENTS_IN_ALL);
            System.arraycopy(other.marks, 0, marks, 0, MOST_EVENTS_IN_ALL);
            System.arraycopy(other.clocks, 0, clocks, 0, MOST_EVENTS_IN_ALL);
            System.arraycopy(other.senders, 0, senders, 0, MOST_MESSAGES);
            System.arraycopy(other.sentAs, 0, sentAs, 0, MOST_MESSAGES);
            System.arraycopy(other.takers, 0, takers, 0, MOST_MESSAGES);
            System.arraycopy(other.takenAs, 0, takenAs, 0, MOST_MESSAGES);
        }

        static int spotOf(int p, int k) {
            return p * MOST_EVENTS + k - 1;
        }

        int placeOf(int p) {
            return processes - 1 - p;
        }

        boolean hasProcess(int p) {
            return p >= 0 && p < processes;
        }

        boolean hasEvent(int p, int k) {
            return hasProcess(p) && k >= 1 && k <= events[p];
        }

        boolean hasMessage(int m) {
            return m >= 0 && m < messages;
        }

        boolean isTaken(int m) {
            return takers[m] >= 0;
        }

        boolean isFullAt(int p) {
            return events[p] >= MOST_EVENTS;
        }

        int clockOf(int p, int k) {
            return clocks[spotOf(p, k)];
        }

        /** Sent by the event that is going to be appended to p. */
        int openMessage(int p) {
            int m = messages;
            senders[m] = p;
            sentAs[m] = events[p] + 1;
            takers[m] = NOT;
            takenAs[m] = NOT;
            messages++;
            return m;
        }

        /** Taken by the event that was appended to p last. */
        void closeMessage(int m, int p) {
            takers[m] = p;
            takenAs[m] = events[p];
        }

        void append(int p, int sort, int m, int v) {
            int k = events[p] + 1;
            int spot = spotOf(p, k);
            int clock = k == 1 ? 0 : clocks[spot - 1];
            if (sort == TAKES) {
                clock = Row.greater(clock, clockOf(senders[m], sentAs[m]));
            }
            clocks[spot] = clock + Row.one(placeOf(p));
            sorts[spot] = sort;
            values[spot] = v;
            carried[spot] = m;
            marks[spot] = 0;
            order[total] = p;
            total++;
            events[p] = k;
        }

        void removeLast() {
            total--;
            int p = order[total];
            int spot = spotOf(p, events[p]);
            if (sorts[spot] == SENDS) {
                messages--;
            }
            if (sorts[spot] == TAKES) {
                takers[carried[spot]] = NOT;
                takenAs[carried[spot]] = NOT;
            }
            events[p]--;
        }

        int marksInAll() {
            int found = 0;
            for (int p = 0; p < processes; p++) {
                for (int k = 1; k <= events[p]; k++) {
                    found += marks[spotOf(p, k)];
                }
            }
            return found;
        }

        /** NONE, if the digits tell no cut of this run. */
        int rowOfDigits(int digits) {
            if (digits < 0) {
                return NONE;
            }
            int row = 0;
            int rest = digits;
            for (int p = processes - 1; p >= 0; p--) {
                int in = rest % 10;
                if (in > events[p]) {
                    return NONE;
                }
                row += in * Row.one(placeOf(p));
                rest = rest / 10;
            }
            return rest > 0 ? NONE : row;
        }

        boolean holdsTogether(int row) {
            for (int p = 0; p < processes; p++) {
                int k = Row.at(row, placeOf(p));
                if (k > 0 && !Row.isWithin(clocks[spotOf(p, k)], row)) {
                    return false;
                }
            }
            return true;
        }

        int valueIn(int row, int p) {
            int k = Row.at(row, placeOf(p));
            return k == 0 ? starts[p] : values[spotOf(p, k)];
        }

        /** The bits of the messages that are sent in a cut and not taken in it. */
        int underWay(int row) {
            int bits = 0;
            for (int m = 0; m < messages; m++) {
                boolean sent = Row.at(row, placeOf(senders[m])) >= sentAs[m];
                boolean taken = takers[m] >= 0 && Row.at(row, placeOf(takers[m])) >= takenAs[m];
                if (sent && !taken) {
                    bits |= 1 << m;
                }
            }
            return bits;
        }

        boolean endsInMarks(int row) {
            for (int p = 0; p < processes; p++) {
                int k = Row.at(row, placeOf(p));
                if (k > 0 && marks[spotOf(p, k)] == 0) {
                    return false;
                }
            }
            return true;
        }
    }

    /** The cuts of a run that hold, by number. A cut's next ones have greater numbers than it. */
    private static final class Lattice {
        final Run run;
        boolean stale = true;
        int size = 0;
        final int[] rows = new int[MOST_CUTS];
        /** The number of the cut in each slot, NONE where none holds. */
        private final int[] numbers = new int[MOST_CUTS];
        private boolean counted = false;
        private final long[] waysTo = new long[MOST_CUTS];
        private final long[] waysFrom = new long[MOST_CUTS];

        Lattice(Run run) {
            this.run = run;
        }

        void refresh() {
            if (!stale) {
                return;
            }
            stale = false;
            counted = false;
            size = 0;
            Arrays.fill(numbers, NONE);
            int row = 0;
            for (int seen = 0; seen < MOST_CUTS && row >= 0; seen++) {
                if (run.holdsTogether(row)) {
                    rows[size] = row;
                    numbers[Row.slot(row)] = size;
                    size++;
                }
                row = rowBehind(row);
            }
        }

        /** The next cut by its digits, whether it holds or not; NONE behind the last. */
        private int rowBehind(int row) {
            int rest = row;
            for (int p = run.processes - 1; p >= 0; p--) {
                int place = run.placeOf(p);
                if (Row.at(rest, place) < run.events[p]) {
                    return rest + Row.one(place);
                }
                rest = Row.without(rest, place);
            }
            return NONE;
        }

        int numberOf(int row) {
            int slot = Row.slot(row);
            return slot < MOST_CUTS ? numbers[slot] : NONE;
        }

        /** The cut with one event of p more; NONE, if there is none that holds. */
        int successor(int i, int p) {
            int place = run.placeOf(p);
            if (Row.at(rows[i], place) >= run.events[p]) {
                return NONE;
            }
            return numbers[Row.slot(rows[i] + Row.one(place))];
        }

        long waysBy(int i) {
            if (!counted) {
                countWays();
                counted = true;
            }
            return waysTo[i] * waysFrom[i];
        }

        private void countWays() {
            Arrays.fill(waysTo, 0L);
            waysTo[0] = 1;
            for (int i = 0; i < size; i++) {
                for (int p = 0; p < run.processes; p++) {
                    int after = successor(i, p);
                    if (after >= 0) {
                        waysTo[after] += waysTo[i];
                    }
                }
            }
            for (int i = size - 1; i >= 0; i--) {
                long ways = i == size - 1 ? 1 : 0;
                for (int p = 0; p < run.processes; p++) {
                    int after = successor(i, p);
                    ways += after >= 0 ? waysFrom[after] : 0;
                }
                waysFrom[i] = ways;
            }
        }
    }

    /**
     * A condition as a program for a stack: each command an operation and, above its bits, a
     * number, 0 where the operation needs none.
     */
    private static final class Condition {
        static final int NUMBER = 0;
        static final int VALUE = 1;
        static final int EVENTS_IN = 2;
        static final int UNDER_WAY = 3;
        static final int PLUS = 4;
        static final int MINUS = 5;
        static final int EQUAL = 6;
        static final int LESS = 7;
        static final int MORE = 8;
        static final int BOTH = 9;
        static final int EITHER = 10;
        static final int OPPOSITE = 11;
        private static final int OPERATION_BITS = 15;
        static final int NUMBER_SHIFT = 4;

        boolean told = false;
        int size = 0;
        final int[] program = new int[MOST_BYTES];

        void copyFrom(Condition other) {
            told = other.told;
            size = other.size;
            System.arraycopy(other.program, 0, program, 0, MOST_BYTES);
        }

        boolean isMet(Run run, int row, int[] stack) {
            int top = 0;
            int underWay = NONE; // dear to find, so once for all the times a text names it
            for (int i = 0; i < size; i++) {
                int operation = program[i] & OPERATION_BITS;
                if (operation == UNDER_WAY && underWay < 0) {
                    underWay = Integer.bitCount(run.underWay(row));
                }
                if (operation <= UNDER_WAY && top < stack.length) {
                    stack[top] = operation == UNDER_WAY ? underWay : unit(run, row, operation, program[i] >> NUMBER_SHIFT);
                    top++;
                } else if (operation == OPPOSITE && top >= 1) {
                    stack[top - 1] = 1 - stack[top - 1];
                } else if (top >= 2) {
                    top--;
                    stack[top - 1] = combined(operation, stack[top - 1], stack[top]);
                }
            }
            return top > 0 && stack[0] == 1;
        }

        private static int unit(Run run, int row, int operation, int number) {
            switch (operation) {
                case VALUE:
                    return run.valueIn(row, number);
                case EVENTS_IN:
                    return Row.at(row, run.placeOf(number));
                default:
                    return number;
            }
        }

        private static int combined(int operation, int a, int b) {
            switch (operation) {
                case PLUS:
                    return a + b;
                case MINUS:
                    return a - b;
                case EQUAL:
                    return a == b ? 1 : 0;
                case LESS:
                    return a < b ? 1 : 0;
                case MORE:
                    return a > b ? 1 : 0;
                case BOTH:
                    return a & b;
                default:
                    return a | b;
            }
        }
    }

    /** What the cuts of a run say of one condition. */
    private static final class Survey {
        private static final int MET = 1;
        /** A way leads on from here to the last cut on which none meets the condition. */
        private static final int PASSABLE = 2;
        private static final int SLICED = 4;
        private static final int NO_ROW = -1;
        private static final int COUNTS = MOST_EVENTS + 1;

        private final Condition condition;
        private final Lattice lattice;
        private final Run run;
        boolean stale = true;
        private boolean passableKnown = false;
        private boolean sliceKnown = false;
        private int met = 0;
        private int sliced = 0;
        private final int[] flags = new int[MOST_CUTS];
        /** For each process and each number of its events the meet of the met cuts with so many or more. */
        private final int[] leastRows = new int[MOST_PROCESSES * COUNTS];
        private final int[] stack = new int[MOST_BYTES];

        Survey(Condition condition, Lattice lattice, Run run) {
            this.condition = condition;
            this.lattice = lattice;
            this.run = run;
        }

        /** The lattice has to be fresh. */
        void refresh() {
            if (!stale) {
                return;
            }
            stale = false;
            passableKnown = false;
            sliceKnown = false;
            flagMet();
        }

        private void needPassable() {
            if (!passableKnown) {
                passableKnown = true;
                flagPassable();
            }
        }

        private void needSlice() {
            if (!sliceKnown) {
                sliceKnown = true;
                gatherLeastRows();
                flagSliced();
            }
        }

        private void flagMet() {
            met = 0;
            for (int i = 0; i < lattice.size; i++) {
                boolean is = condition.isMet(run, lattice.rows[i], stack);
                flags[i] = is ? MET : 0;
                met += is ? 1 : 0;
            }
        }

        private void flagPassable() {
            int last = lattice.size - 1;
            for (int i = last; i >= 0; i--) {
                if ((flags[i] & MET) == 0 && (i == last || passableStep(i) >= 0)) {
                    flags[i] |= PASSABLE;
                }
            }
        }

        /** The least process whose event leads from cut i to a passable one; NONE without. */
        private int passableStep(int i) {
            for (int p = 0; p < run.processes; p++) {
                int after = lattice.successor(i, p);
                if (after >= 0 && (flags[after] & PASSABLE) != 0) {
                    return p;
                }
            }
            return NONE;
        }

        private void gatherLeastRows() {
            Arrays.fill(leastRows, NO_ROW);
            for (int i = 0; i < lattice.size; i++) {
                if ((flags[i] & MET) != 0) {
                    gather(lattice.rows[i]);
                }
            }
            for (int p = 0; p < run.processes; p++) {
                for (int k = MOST_EVENTS - 1; k >= 0; k--) {
                    int spot = p * COUNTS + k;
                    leastRows[spot] = meetOf(leastRows[spot], leastRows[spot + 1]);
                }
            }
        }

        private void gather(int row) {
            for (int p = 0; p < run.processes; p++) {
                int spot = p * COUNTS + Row.at(row, run.placeOf(p));
                leastRows[spot] = meetOf(leastRows[spot], row);
            }
        }

        private static int meetOf(int a, int b) {
            if (a == NO_ROW) {
                return b;
            }
            return b == NO_ROW ? a : Row.lesser(a, b);
        }

        private void flagSliced() {
            sliced = 0;
            for (int i = 0; i < lattice.size; i++) {
                if (isJoinOfLeast(lattice.rows[i])) {
                    flags[i] |= SLICED;
                    sliced++;
                }
            }
        }

        /**
         * Meets and joins of cuts distribute, so the slice has just the joins of meets of met
         * cuts: the cuts that have, with each of their events, its whole least cut in them.
         */
        private boolean isJoinOfLeast(int row) {
            for (int p = 0; p < run.processes; p++) {
                int leastRow = leastRows[p * COUNTS + Row.at(row, run.placeOf(p))];
                if (leastRow == NO_ROW || !Row.isWithin(leastRow, row)) {
                    return false;
                }
            }
            return true;
        }

        int meetsAt(int i) {
            return flags[i] & MET;
        }

        int pickMet(int k) {
            return k == -1 ? met : flaggedAt(MET, k);
        }

        int pickSliced(int k) {
            needSlice();
            return k == -1 ? sliced : flaggedAt(SLICED, k);
        }

        private int flaggedAt(int flag, int k) {
            int left = k;
            for (int i = 0; i < lattice.size; i++) {
                if ((flags[i] & flag) != 0) {
                    if (left == 0) {
                        return i;
                    }
                    left--;
                }
            }
            return NOT;
        }

        boolean isExact() {
            needSlice();
            return met == sliced;
        }

        boolean hasWayRound() {
            needPassable();
            return (flags[0] & PASSABLE) != 0;
        }

        /** The process of step k of the way round; -1 asks how many steps it has. */
        int stepRound(int k) {
            if (!hasWayRound() || k >= run.total) {
                return NOT;
            }
            if (k == -1) {
                return run.total;
            }
            int i = 0;
            int p = NOT;
            for (int steps = 0; steps <= k && i >= 0; steps++) {
                p = passableStep(i);
                i = p >= 0 ? lattice.successor(i, p) : NONE;
            }
            return p;
        }

        int leastWith(int p, int k) {
            needSlice();
            int row = leastRows[p * COUNTS + k];
            return row == NO_ROW ? NOT : lattice.numberOf(row);
        }

        int copyMetTo(LongRow list) {
            list.resize(Math.min(met, MOST_LONGS));
            int laid = 0;
            for (int i = 0; i < lattice.size && laid < list.size; i++) {
                if ((flags[i] & MET) != 0) {
                    list.longs[laid] = i;
                    laid++;
                }
            }
            return list.size;
        }

        int judgeOf(LongRow list) {
            int right = 0;
            for (int i = 0; i < lattice.size && right < list.size; i++) {
                if ((flags[i] & MET) != 0) {
                    if (list.longs[right] != i) {
                        return right;
                    }
                    right++;
                }
            }
            return right == list.size ? ALL_JUDGED_OFFSET + list.size : right;
        }
    }

    /** The tape, with the place to which a reader has come. */
    private static final class Tape {
        int length = 0;
        int place = 0;
        private final int[] bytes = new int[MOST_BYTES];

        void append(int letter) {
            bytes[length] = letter;
            length++;
        }

        void clear() {
            length = 0;
            place = 0;
        }

        boolean isAtEnd() {
            return place >= length;
        }

        /** The byte at the place, NONE at the end. */
        int peek() {
            return place < length ? bytes[place] : NONE;
        }

        boolean accept(int letter) {
            if (place >= length || bytes[place] != letter) {
                return false;
            }
            place++;
            return true;
        }

        /** Goes on by a figure below the bound; NONE, without going on, where there is none. */
        int figureBelow(int bound) {
            int figure = place < length ? bytes[place] - '0' : NONE;
            if (figure < 0 || figure > 9 || figure >= bound) {
                return NONE;
            }
            place++;
            return figure;
        }

        /** Goes on by one or two figures; NONE, if there is none. */
        int number() {
            int number = NONE;
            for (int figures = 0; figures < 2 && place < length; figures++) {
                int figure = bytes[place] - '0';
                if (figure < 0 || figure > 9) {
                    return number;
                }
                number = figures == 0 ? figure : number * 10 + figure;
                place++;
            }
            return number;
        }
    }

    /**
     * Reads a condition from the tape. Each method leaves the tape's place behind what it read;
     * where it answers false, the place is that of the fault.
     */
    private static final class ConditionReader {
        private final Tape tape;
        private final Run run;
        private int size = 0;
        private final int[] program = new int[MOST_BYTES];

        ConditionReader(Tape tape, Run run) {
            this.tape = tape;
            this.run = run;
        }

        void begin() {
            tape.place = 0;
            size = 0;
        }

        void handTo(Condition condition) {
            condition.told = true;
            condition.size = size;
            System.arraycopy(program, 0, condition.program, 0, MOST_BYTES);
        }

        private void add(int command) {
            if (size < MOST_BYTES) {
                program[size] = command;
                size++;
            }
        }

        private boolean readCondition(int depth) {
            if (!readAll(depth)) {
                return false;
            }
            for (int more = 0; more < MOST_BYTES && tape.accept('|'); more++) {
                if (!readAll(depth)) {
                    return false;
                }
                add(Condition.EITHER);
            }
            return true;
        }

        private boolean readAll(int depth) {
            if (!readTest(depth)) {
                return false;
            }
            for (int more = 0; more < MOST_BYTES && tape.accept('&'); more++) {
                if (!readTest(depth)) {
                    return false;
                }
                add(Condition.BOTH);
            }
            return true;
        }

        private boolean readTest(int depth) {
            int letter = tape.peek();
            if (letter != '!' && letter != '(') {
                return readComparison();
            }
            if (depth >= MOST_DEPTH) {
                return false;
            }
            tape.accept(letter);
            if (letter == '(') {
                return readCondition(depth + 1) && tape.accept(')');
            }
            if (!readTest(depth + 1)) {
                return false;
            }
            add(Condition.OPPOSITE);
            return true;
        }

        private boolean readComparison() {
            if (!readSum()) {
                return false;
            }
            int operation = tape.accept('=') ? Condition.EQUAL
                    : tape.accept('<') ? Condition.LESS
                    : tape.accept('>') ? Condition.MORE : NONE;
            if (operation < 0 || !readSum()) {
                return false;
            }
            add(operation);
            return true;
        }

        private boolean readSum() {
            if (!readUnit()) {
                return false;
            }
            for (int more = 0; more < MOST_BYTES; more++) {
                int operation = tape.accept('+') ? Condition.PLUS : tape.accept('-') ? Condition.MINUS : NONE;
                if (operation < 0) {
                    return true;
                }
                if (!readUnit()) {
                    return false;
                }
                add(operation);
            }
            return true;
        }

        private boolean readUnit() {
            int operation = tape.accept('x') ? Condition.VALUE
                    : tape.accept('c') ? Condition.EVENTS_IN
                    : tape.accept('m') ? Condition.UNDER_WAY : Condition.NUMBER;
            int number = 0;
            if (operation == Condition.VALUE || operation == Condition.EVENTS_IN) {
                number = tape.figureBelow(run.processes);
            } else if (operation == Condition.NUMBER) {
                number = tape.number();
            }
            if (number < 0) {
                return false;
            }
            add(number << Condition.NUMBER_SHIFT | operation);
            return true;
        }
    }

    /** Reads a run's statements from the tape; places as with conditions. */
    private static final class RunReader {
        private final Tape tape;
        private final Run run;
        int sort = STEP;
        int process = 0;
        int message = 0;
        int value = 0;

        RunReader(Tape tape, Run run) {
            this.tape = tape;
            this.run = run;
        }

        boolean readsWhole() {
            tape.place = 0;
            for (int read = 0; read < MOST_BYTES; read++) {
                if (!readStatement()) {
                    return false;
                }
                if (!tape.accept(';')) {
                    return tape.isAtEnd();
                }
            }
            return false;
        }

        boolean readStatement() {
            sort = tape.accept('s') ? STEP : tape.accept('e') ? SENDS : tape.accept('t') ? TAKES : NONE;
            if (sort < 0 || !tape.accept(' ')) {
                return false;
            }
            process = tape.figureBelow(run.processes);
            if (process < 0 || (sort == TAKES && !readMessage())) {
                return false;
            }
            return tape.accept(' ') && readValue();
        }

        private boolean readMessage() {
            if (!tape.accept(' ')) {
                return false;
            }
            message = tape.figureBelow(10);
            return message >= 0;
        }

        private boolean readValue() {
            boolean negative = tape.accept('-');
            int number = tape.number();
            value = negative ? -number : number;
            return number >= 0;
        }
    }

    /** A list of longs that may be missing. */
    private static final class LongRow {
        private static final int GONE = -1;

        int size = GONE;
        final long[] longs = new long[MOST_LONGS];

        boolean isMissing() {
            return size == GONE;
        }

        boolean hasPlace(int i) {
            return i >= 0 && i < size;
        }

        void resize(int n) {
            size = n;
            Arrays.fill(longs, 0L);
        }
    }
}
