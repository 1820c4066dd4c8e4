/** For each promise of the document calls with the answers that are due, worked out by hand. */
public final class PromiseTest {
    private static final int LEAST = Integer.MIN_VALUE;
    private static final int MOST = Integer.MAX_VALUE;

    private final Due due = new Due();

    public static void main(String[] args) {
        PromiseTest test = new PromiseTest();
        test.run();
        test.cuts();
        test.conditions();
        test.marks();
        test.texts();
        test.listsAndImage();
        test.due.end();
    }

    private void run() {
        promise1();
        promise2();
        promise3();
        promise4();
        promise5();
        promise6();
        promise7();
        promise8();
        promise9();
        promise10();
        promise11();
    }

    private void cuts() {
        promise12And13();
        changesAreSeen();
        promise14();
        promise15();
        promise16();
        promise17And18();
        promise19();
        promise20();
        promise21();
    }

    private void conditions() {
        promise22();
        promise22Faults();
        promise22Meanings();
        promise23();
        promise24();
        promise25();
        promise26();
        promise27();
        promise28();
        promise29();
        promise30();
    }

    private void marks() {
        promise31();
        promise32();
    }

    private void texts() {
        promise33();
        promise34();
        promise35();
        promise35Faults();
        promise35Refusals();
    }

    private void listsAndImage() {
        promise36();
        promise37And38();
        promise39();
        promise40();
        promise41And42();
        imageHoldsAll();
        promise43();
    }

    // Process 0: sends message 0, step. 1: takes it, sends message 1. 2: takes that.
    // The cuts that hold: 000 100 110 120 121 200 210 220 221.
    private static RunCuts chain() {
        RunCuts x = new RunCuts();
        x.processes(3);
        x.send(0, 5);
        x.take(1, 0, -7);
        x.send(1, 2);
        x.take(2, 1, 9);
        x.step(0, 1);
        return x;
    }

    /** Two processes with the given numbers of steps, values 1, 2, .. */
    private static RunCuts grid(int first, int second) {
        RunCuts x = new RunCuts();
        for (int k = 1; k <= first; k++) {
            x.step(0, k);
        }
        for (int k = 1; k <= second; k++) {
            x.step(1, k);
        }
        return x;
    }

    private static RunCuts fullest() {
        RunCuts x = new RunCuts();
        x.processes(4);
        for (int i = 0; i < 20; i++) {
            x.step(i % 4, i);
        }
        return x;
    }

    private void promise1() {
        due.under("promise 1");
        RunCuts x = new RunCuts();
        int[] counts = {2, 0, 0, 0, 0, 0, 0};
        for (int what = 0; what < counts.length; what++) {
            due.is("count " + what, x.count(what), counts[what]);
        }
        due.is("value of 0", x.value(0, 0), 100);
        due.is("value of 1", x.value(0, 1), 100);
        due.is("value of 2", x.value(0, 2), -1);
        due.is("cuts", x.cuts(), 1);
        due.is("undo", x.undo(), -3);
        due.is("back", x.back(), -3);
    }

    private void promise2() {
        due.under("promise 2");
        RunCuts x = new RunCuts();
        int[] bad = {0, -1, 5, LEAST, MOST};
        for (int n : bad) {
            due.is("processes " + n, x.processes(n), -2);
        }
        due.is("processes 4", x.processes(4), 2);
        due.is("processes 1", x.processes(1), 4);
        due.is("step of 1", x.step(1, 0), -1);
        due.is("processes 3", x.processes(3), 1);
        x.start(2, 7);
        x.send(0, 1);
        x.mark(0, 1, 1);
        Texts.read(x, 1, "x0=1");
        x.list(1, 3);
        Texts.feed(x, "abc");
        x.processes(0);
        due.is("events behind BAD", x.count(1), 1);
        due.is("processes 3 again", x.processes(3), 3);
        int[] counts = {3, 0, 0, 0, 0, 3, 1};
        for (int what = 0; what < counts.length; what++) {
            due.is("count " + what, x.count(what), counts[what]);
        }
        due.is("start of 2", x.start(2, 0), 100);
        due.is("possible", x.possible(1, -1), -3);
        x.step(0, 1);
        due.is("new event's mark", x.eventOf(0, 1, 3), 0);
        due.is("new event's message", x.eventOf(0, 1, 2), -5);
    }

    private void promise3() {
        due.under("promise 3");
        RunCuts x = grid(1, 0);
        due.is("start", x.start(0, -99), 100);
        due.is("start again", x.start(0, 99), 1);
        due.is("value at the start", x.value(0, 0), 199);
        due.is("value behind the step", x.value(1, 0), 101);
        due.is("value too great", x.start(0, 100), -2);
        due.is("value too small", x.start(0, -100), -2);
        due.is("least int", x.start(0, LEAST), -2);
        due.is("no process", x.start(2, 0), -1);
        due.is("below", x.start(-1, 0), -1);
        due.is("NONE ahead of BAD", x.start(2, 100), -1);
        due.is("it stayed", x.start(0, 0), 199);
        Texts.read(x, 0, "x1=3");
        due.is("before", x.possible(0, -1), 0);
        x.start(1, 3);
        due.is("conditions see it", x.possible(0, -1), 2);
    }

    private void promise4() {
        due.under("promise 4");
        RunCuts x = new RunCuts();
        for (int k = 1; k <= 5; k++) {
            due.is("step " + k, x.step(1, 90 + k), k);
        }
        due.is("a sixth", x.step(1, 0), -4);
        due.is("BAD ahead of FULL", x.step(1, 100), -2);
        due.is("BAD", x.step(0, -100), -2);
        due.is("NONE ahead of BAD", x.step(2, -100), -1);
        due.is("NONE", x.step(-1, 0), -1);
        due.is("the other process", x.step(0, -99), 1);
        due.is("its value", x.eventOf(0, 1, 1), 1);
        due.is("events", x.count(1), 6);
    }

    private void promise5() {
        due.under("promise 5");
        RunCuts x = new RunCuts();
        for (int m = 0; m < 5; m++) {
            due.is("send " + m, x.send(0, m), m);
        }
        due.is("5 events", x.send(0, 1), -4);
        for (int m = 5; m < 8; m++) {
            due.is("send " + m, x.send(1, m), m);
        }
        due.is("8 messages", x.send(1, 1), -4);
        due.is("a step still goes", x.step(1, 1), 4);
        due.is("BAD ahead of FULL", x.send(1, 100), -2);
        due.is("NONE ahead of BAD", x.send(2, 100), -1);
        due.is("NONE", x.send(-1, 1), -1);
        due.is("taking makes no room", x.take(1, 0, 1), 5);
        x.processes(4);
        for (int m = 0; m < 8; m++) {
            x.send(m % 2, 0);
        }
        due.is("taken", x.take(2, 3, 0), 1);
        due.is("8 messages, one taken", x.send(3, 1), -4);
    }

    private void promise6() {
        due.under("promise 6");
        RunCuts x = new RunCuts();
        due.is("no message yet", x.take(1, 0, 1), -1);
        x.send(0, 1);
        x.send(0, 1);
        due.is("take", x.take(1, 1, 3), 1);
        due.is("it is taken", x.take(1, 1, 3), -3);
        due.is("BAD ahead of STATE", x.take(1, 1, 100), -2);
        due.is("NONE of m ahead of BAD", x.take(1, 2, 100), -1);
        due.is("NONE of m below", x.take(1, -1, 1), -1);
        due.is("NONE of p", x.take(2, 0, 1), -1);
        due.is("NONE of p below", x.take(LEAST, 0, 1), -1);
        due.is("by its own process", x.take(0, 0, 4), 3);
        due.is("its clock", x.clock(0, 3, 0), 3);
        x.send(0, 1);
        x.step(0, 1);
        due.is("FULL", x.take(0, 2, 1), -4);
        due.is("STATE ahead of FULL", x.take(0, 1, 1), -3);
        due.is("taken by process 0 is taken, too", x.take(1, 0, 1), -3);
        due.is("not taken by FULL", x.message(2, 2), -5);
        due.is("the other takes it", x.take(1, 2, 1), 2);
    }

    private void promise7() {
        due.under("promise 7");
        RunCuts x = chain();
        x.mark(2, 1, 1);
        x.mark(0, 2, 1);
        due.is("the step goes", x.back(), 4);
        due.is("of process 0", x.eventOf(0, 2, 0), -1);
        due.is("with its mark", x.count(3), 1);
        due.is("the taking goes", x.back(), 3);
        due.is("message 1 is not taken", x.message(1, 2), -5);
        due.is("nor its event", x.message(1, 3), -5);
        due.is("it can be taken", x.take(0, 1, 0), 2);
        due.is("no mark came back", x.count(3), 0);
        due.is("and back", x.back(), 3);
        due.is("the sending goes", x.back(), 2);
        due.is("with its message", x.count(2), 1);
        due.is("which is none", x.message(1, 0), -1);
        due.is("its number comes again", x.send(2, 0), 1);
        due.is("back", x.back(), 2);
        due.is("back", x.back(), 1);
        due.is("back", x.back(), 0);
        due.is("none left", x.back(), -3);
        due.is("cuts", x.cuts(), 1);
        x.step(0, 1);
        x.mark(0, 1, 1);
        x.back();
        x.step(0, 1);
        due.is("a new event has no mark", x.eventOf(0, 1, 3), 0);
    }

    private void promise8() {
        due.under("promise 8");
        RunCuts x = chain();
        x.mark(1, 1, 1);
        int[][] events = {{0, 1, 1, 105, 0, 0}, {0, 2, 0, 101, -5, 0}, {1, 1, 2, 93, 0, 1}, {1, 2, 1, 102, 1, 0}, {2, 1, 2, 109, 1, 0}};
        for (int[] e : events) {
            for (int what = 0; what < 4; what++) {
                due.is("event " + e[1] + " of " + e[0] + ": " + what, x.eventOf(e[0], e[1], what), e[2 + what]);
            }
        }
        due.is("no process", x.eventOf(3, 1, 0), -1);
        due.is("below", x.eventOf(-1, 1, 0), -1);
        due.is("event 0", x.eventOf(0, 0, 0), -1);
        due.is("event 3", x.eventOf(0, 3, 0), -1);
        due.is("what 4", x.eventOf(0, 1, 4), -1);
        due.is("what -1", x.eventOf(0, 1, -1), -1);
    }

    private void promise9() {
        due.under("promise 9");
        RunCuts x = chain();
        int[][] clocks = {{0, 1, 100}, {0, 2, 200}, {1, 1, 110}, {1, 2, 120}, {2, 1, 121}};
        for (int[] c : clocks) {
            int got = x.clock(c[0], c[1], 0) * 100 + x.clock(c[0], c[1], 1) * 10 + x.clock(c[0], c[1], 2);
            due.is("clock of event " + c[1] + " of " + c[0], got, c[2]);
        }
        due.is("no such q", x.clock(0, 1, 3), -1);
        due.is("q below", x.clock(0, 1, -1), -1);
        due.is("no such k", x.clock(2, 2, 0), -1);
        due.is("k 0", x.clock(2, 0, 0), -1);
        due.is("no such p", x.clock(3, 1, 0), -1);
        x.send(2, 0);
        x.take(0, 2, 0);
        due.is("a later clock", x.clock(0, 3, 1), 2);
        due.is("its own", x.clock(0, 3, 0), 3);
        due.is("of the third", x.clock(0, 3, 2), 2);
    }

    private void promise10() {
        due.under("promise 10");
        RunCuts x = chain();
        due.is("by two messages", x.ahead(0, 1, 2, 1), 1);
        due.is("the other way about", x.ahead(2, 1, 0, 1), 2);
        due.is("same process", x.ahead(0, 1, 0, 2), 1);
        due.is("same process, back", x.ahead(0, 2, 0, 1), 2);
        due.is("one twice", x.ahead(1, 2, 1, 2), 0);
        due.is("neither", x.ahead(0, 2, 2, 1), 0);
        due.is("no k", x.ahead(0, 3, 2, 1), -1);
        due.is("no l", x.ahead(0, 1, 2, 2), -1);
        due.is("no p", x.ahead(3, 1, 2, 1), -1);
        due.is("no q", x.ahead(0, 1, -1, 1), -1);
        due.is("k 0", x.ahead(0, 0, 2, 1), -1);
    }

    private void promise11() {
        due.under("promise 11");
        RunCuts x = chain();
        x.send(2, 0);
        int[][] messages = {{0, 1, 1, 1}, {1, 2, 2, 1}, {2, 2, -5, -5}};
        for (int m = 0; m < messages.length; m++) {
            for (int what = 0; what < 4; what++) {
                due.is("message " + m + ": " + what, x.message(m, what), messages[m][what]);
            }
        }
        due.is("no such message", x.message(3, 0), -1);
        due.is("below", x.message(-1, 0), -1);
        due.is("what 4", x.message(0, 4), -1);
        due.is("what -1", x.message(0, -1), -1);
    }

    private static final int[] CHAIN_CUTS = {0, 100, 110, 120, 121, 200, 210, 220, 221};

    private void promise12And13() {
        due.under("promises 12, 13");
        RunCuts x = chain();
        due.is("cuts", x.cuts(), 9);
        for (int i = 0; i < CHAIN_CUTS.length; i++) {
            due.is("cut " + i, x.cut(i), CHAIN_CUTS[i]);
        }
        due.is("cut 9", x.cut(9), -1);
        due.is("cut -1", x.cut(-1), -1);
        due.is("greatest int", x.cut(MOST), -1);
        due.is("the most cuts", fullest().cuts(), 1296);
        due.is("the last of them", fullest().cut(1295), 5555);
        due.is("none beyond", fullest().cut(1296), -1);
        RunCuts one = new RunCuts();
        one.processes(1);
        one.step(0, 1);
        due.is("of one process", one.cuts(), 2);
        x.back();
        due.is("behind back()", x.cuts(), 5);
    }

    /** What was asked ahead of a change must not be answered behind it. */
    private void changesAreSeen() {
        due.under("changes are seen");
        RunCuts x = new RunCuts();
        Texts.read(x, 0, "m=0");
        Texts.read(x, 1, "c0=1");
        expectCounts(x, 1, 1, 1, 0);
        x.image();
        x.send(0, 1);
        expectCounts(x, 2, 1, 1, 1);
        x.step(1, 1);
        expectCounts(x, 4, 2, 2, 2);
        x.take(1, 0, 1);
        expectCounts(x, 5, 2, 3, 3);
        x.back();
        expectCounts(x, 4, 2, 2, 2);
        Texts.tell(x, "s 0 1");
        expectCounts(x, 6, 3, 2, 2);
        x.undo();
        expectCounts(x, 1, 1, 1, 0);
        Texts.tell(x, "s 1 1;s 1 1;s 0 1");
        expectCounts(x, 6, 3, 6, 3);
        due.is("slice of condition 1", x.slice(1, -1), 3);
        due.is("condition 1 is not sure not to be", x.sure(1), 1);
        Texts.read(x, 1, "c0=1&c1=1");
        due.is("slice of another one", x.slice(1, -1), 1);
        due.is("which is not sure", x.sure(1), 0);
        x.processes(2);
        due.is("cuts without events", x.cuts(), 1);
        due.is("ways without events", x.ways(-1), 1);
    }

    private void expectCounts(RunCuts x, int cuts, int ways, int met0, int met1) {
        String behind = " with " + x.count(1) + " events";
        due.is("cuts" + behind, x.cuts(), cuts);
        due.is("ways" + behind, x.ways(-1), ways);
        due.is("ways by the last cut" + behind, x.ways(cuts - 1), ways);
        due.is("m=0" + behind, x.possible(0, -1), met0);
        due.is("c0=1" + behind, x.possible(1, -1), met1);
    }

    private void promise14() {
        due.under("promise 14");
        RunCuts x = chain();
        for (int i = 0; i < CHAIN_CUTS.length; i++) {
            due.is("which " + CHAIN_CUTS[i], x.which(CHAIN_CUTS[i]), i);
        }
        due.is("does not hold", x.which(10), -5);
        due.is("nor this", x.which(1), -5);
        due.is("nor this", x.which(211), -5);
        due.is("too many of 0", x.which(300), -1);
        due.is("too many of 1", x.which(130), -1);
        due.is("too many of 2", x.which(122), -1);
        due.is("too many, and not holding", x.which(12), -1);
        due.is("more digits", x.which(1000), -1);
        due.is("below 0", x.which(-1), -1);
        due.is("least int", x.which(LEAST), -1);
        due.is("greatest int", x.which(MOST), -1);
        due.is("of the fullest", fullest().which(5555), 1295);
        due.is("five digits", fullest().which(10000), -1);
    }

    private void promise15() {
        due.under("promise 15");
        int[] levels = {0, 1, 2, 3, 4, 2, 3, 4, 5};
        for (int i = 0; i < levels.length; i++) {
            due.is("level of " + i, chain().level(i), levels[i]);
        }
        due.is("of none", chain().level(9), -1);
        due.is("below", chain().level(-1), -1);
        due.is("the most", fullest().level(1295), 20);
    }

    private void promise16() {
        due.under("promise 16");
        RunCuts x = chain();
        due.is("how many of 000", x.next(0, -1), 1);
        due.is("the one", x.next(0, 0), 1);
        due.is("how many of 100", x.next(1, -1), 2);
        due.is("by process 0", x.next(1, 0), 5);
        due.is("by process 1", x.next(1, 1), 2);
        due.is("no third", x.next(1, 2), -1);
        due.is("of 120 by 0", x.next(3, 0), 7);
        due.is("of 120 by 2", x.next(3, 1), 4);
        due.is("of the last", x.next(8, -1), 0);
        due.is("none", x.next(8, 0), -1);
        due.is("k below", x.next(1, -2), -1);
        due.is("k far below", x.next(1, LEAST), -1);
        due.is("k far above", x.next(1, MOST), -1);
        due.is("no cut", x.next(9, -1), -1);
        due.is("cut below", x.next(-1, -1), -1);
        due.is("of four processes", fullest().next(0, -1), 4);
        due.is("by the last of four", fullest().next(0, 3), 1);
        due.is("no fifth", fullest().next(0, 4), -1);
    }

    private void promise17And18() {
        due.under("promises 17, 18");
        RunCuts x = chain();
        due.is("meet of 121 and 200", x.meet(4, 5), 1);
        due.is("join of 121 and 200", x.join(4, 5), 8);
        due.is("meet of 110 and 220", x.meet(2, 7), 2);
        due.is("join of 110 and 220", x.join(2, 7), 7);
        due.is("meet with itself", x.meet(6, 6), 6);
        due.is("join with itself", x.join(6, 6), 6);
        due.is("join of 120 and 210", x.join(6, 3), 7);
        due.is("no i", x.meet(9, 0), -1);
        due.is("no j", x.meet(0, 9), -1);
        due.is("i below", x.join(-1, 0), -1);
        due.is("j below", x.join(0, -1), -1);
        RunCuts full = fullest();
        due.is("of the fullest: meet", full.cut(full.meet(full.which(5103), full.which(2514))), 2103);
        due.is("of the fullest: join", full.cut(full.join(full.which(5103), full.which(2514))), 5514);
    }

    private void promise19() {
        due.under("promise 19");
        int[] under = {0, 1, 0, 2, 0, 1, 0, 2, 0};
        for (int i = 0; i < under.length; i++) {
            due.is("in cut " + i, chain().under(i), under[i]);
        }
        due.is("no cut", chain().under(9), -1);
        due.is("below", chain().under(-1), -1);
        RunCuts x = new RunCuts();
        for (int m = 0; m < 8; m++) {
            x.send(m / 4, 0);
        }
        x.take(0, 6, 0);
        due.is("one of eight taken", x.under(x.cuts() - 1), 255 - 64);
        due.is("none taken yet", x.under(x.which(44)), 255);
    }

    private void promise20() {
        due.under("promise 20");
        RunCuts x = chain();
        x.start(2, -50);
        due.is("start of 2", x.value(0, 2), 50);
        due.is("start of 1", x.value(1, 1), 100);
        due.is("1 in 210", x.value(6, 1), 93);
        due.is("0 in 210", x.value(6, 0), 101);
        due.is("0 in 121", x.value(4, 0), 105);
        due.is("2 in 121", x.value(4, 2), 109);
        due.is("no cut", x.value(9, 0), -1);
        due.is("cut below", x.value(-1, 0), -1);
        due.is("no process", x.value(0, 3), -1);
        due.is("process below", x.value(0, -1), -1);
    }

    private void promise21() {
        due.under("promise 21");
        RunCuts x = chain();
        long[] ways = {4, 4, 3, 2, 1, 1, 2, 3, 4};
        due.is("in all", x.ways(-1), 4);
        for (int i = 0; i < ways.length; i++) {
            due.is("by cut " + i, x.ways(i), ways[i]);
        }
        due.is("no cut", x.ways(9), Long.MIN_VALUE);
        due.is("below", x.ways(-2), Long.MIN_VALUE);
        due.is("the most", fullest().ways(-1), 11732745024L);
        due.is("by 5000", fullest().ways(1080), 756756L);
        x.back();
        due.is("behind back()", x.ways(-1), 1);
    }

    private void promise22() {
        due.under("promise 22");
        RunCuts x = new RunCuts();
        Texts.feed(x, "x0=0");
        due.is("no such condition", x.read(3), -1);
        due.is("below", x.read(-1), -1);
        due.is("the tape stays", x.count(5), 4);
        due.is("read", x.read(2), 4);
        due.is("the tape is empty", x.count(5), 0);
        due.is("one condition", x.count(4), 1);
        due.is("a fault", Texts.read(x, 2, "x0=0&&"), -105);
        due.is("the tape is empty", x.count(5), 0);
        due.is("the old one stays", x.possible(2, -1), 1);
        due.is("another one", Texts.read(x, 2, "x0=1"), 4);
        due.is("it is there instead", x.possible(2, -1), 0);
        due.is("nothing on the tape", x.read(0), -100);
        due.is("condition 0 is none", x.possible(0, -1), -3);
        String longest = "1+1+1+1+1+1+1+1+1+1+1+1+1+1+1+1+1+1+1+1+1+1+1+1+1+1+1+1=28";
        due.is("60 bytes", Texts.read(x, 0, longest.replace("=28", "+1=29")), 60);
        due.is("29 summands", x.possible(0, -1), 1);
        due.is("58 bytes", Texts.read(x, 0, longest), 58);
        due.is("28 summands", x.possible(0, -1), 1);
        due.is("60 bytes that end too early", Texts.read(x, 0, longest + "&0"), -160);
    }

    private void promise22Faults() {
        due.under("promise 22, faults");
        String[] texts = {
            "", "x", "c", "m", "1", "12", "123", "x0", "x00=1", "x2=1", "c2=1", "x9", "xx", "cm", "m0=1", "x0=", "x0==1",
            "x0=1=1", "x0<>1", "x0=1&", "x0=1|", "x0=1&|", "|x0=1", "&x0=1", "=1", "+1=1", "-1=1", "1=-1", "1=+1", "1+=1",
            "1-+1=1", "1+1", "1=1+", "1=1-x", "1=1-x5", "x0=1 ", " x0=1", "x0 =1", "()", "(1=1", "(1=1))", "1=1)", "(1=1)(", "(1=1)1",
            "(1)=1", "1=(1)", "!", "!!", "!1", "!&", "!)", "(!1=1)!", "1=1!", "X0=1", "a", "1=1&!", "1=1&(", "(1=1|)", "(1=1&2=2|3=3",
            "((((((", "!!!!!!", "(!(!(!", "!(!(!(", "(((((1=1)))))|((((((", "!!!!!1=1&!!!!!!", "((((!1=1)&!(!1=1", "(((((!1=1"
        };
        int[] faults = {
            0, 1, 1, 1, 1, 2, 2, 2, 2, 1, 1, 1, 1, 1, 1, 3, 3,
            4, 3, 5, 5, 5, 0, 0, 0, 0, 0, 2, 2, 2,
            2, 3, 4, 5, 5, 4, 0, 2, 1, 4, 5, 3, 5, 5,
            2, 2, 1, 2, 2, 1, 1, 6, 3, 0, 0, 5, 5, 5, 12,
            5, 5, 5, 5, 19, 14, 12, 5
        };
        for (int i = 0; i < texts.length; i++) {
            due.is("read " + texts[i], Texts.read(new RunCuts(), 0, texts[i]), -100 - faults[i]);
        }
        RunCuts four = new RunCuts();
        four.processes(4);
        due.is("a fourth process", Texts.read(four, 0, "x3=c3"), 5);
        due.is("no fifth", Texts.read(four, 0, "x3=c4"), -104);
        four.processes(1);
        due.is("one process", Texts.read(four, 0, "x0=x1"), -104);
    }

    /** In a run without events: 1 where the condition is met, as a count of cuts. */
    private void promise22Meanings() {
        due.under("promise 22, meanings");
        String[] met = {
            "x0=7", "x1=0-9", "x0+x1=0-2", "x0>6", "x0<8", "m=0", "c0=0", "10-3=x0", "99=99", "00=0", "5-3-1=1", "5-3+1=3",
            "!1=2", "!!1=1", "!1=2&1=1", "!(1=2&1=1)", "1=1|1=2&1=2", "1=2&1=2|1=1", "(1=1|1=1)&1=1", "!1=1|1=1", "((((1=1))))", "!(!(!1=2))",
            "!!!!!1=2", "(((((1=1)))))", "x1<x0", "0-x0<x1+3", "1=2|1=2|1=1", "07=x0", "1=2|2=3|3=4|4=5|5=5", "1=1&2=2&3=3&4=4&5=5"
        };
        String[] unmet = {
            "x0=8", "x0>7", "x0<7", "m=1", "c0=1", "5-3-1=3", "!1=1", "!1=2&1=2", "1=1&1=2", "(1=1|1=1)&1=2", "!1=1&1=1", "1=2|1=2",
            "!(1=1|1=2)", "x1>x0", "!!!!!1=1", "1=1&1=1&1=2", "1=2|2=3|3=4|4=5|5=6", "1=1&2=2&3=3&4=4&5=6"
        };
        for (String text : met) {
            due.is(text, metAtStart(text), 1);
        }
        for (String text : unmet) {
            due.is(text, metAtStart(text), 0);
        }
    }

    private static int metAtStart(String text) {
        RunCuts x = new RunCuts();
        x.start(0, 7);
        x.start(1, -9);
        return Texts.read(x, 0, text) == text.length() ? x.holds(0, 0) : -99;
    }

    private void promise23() {
        due.under("promise 23");
        RunCuts x = chain();
        due.is("none told", x.holds(0, 0), -3);
        due.is("NONE ahead of STATE", x.holds(0, 9), -1);
        Texts.read(x, 0, "m=1&x1<0|c0=2&x2=9");
        int[] met = {0, 0, 0, 0, 0, 0, 0, 0, 1};
        for (int i = 0; i < met.length; i++) {
            due.is("cut " + i, x.holds(0, i), met[i]);
        }
        Texts.read(x, 0, "m+c1=2");
        int[] others = {0, 0, 0, 0, 1, 0, 0, 0, 1};
        for (int i = 0; i < others.length; i++) {
            due.is("m+c1=2 in cut " + i, x.holds(0, i), others[i]);
        }
        due.is("no c", x.holds(3, 0), -1);
        due.is("c below", x.holds(-1, 0), -1);
        due.is("no i", x.holds(0, 9), -1);
        due.is("i below", x.holds(0, -1), -1);
    }

    private void promise24() {
        due.under("promise 24");
        RunCuts x = chain();
        due.is("none told", x.possible(1, 0), -3);
        due.is("NONE ahead of STATE", x.possible(1, -2), -1);
        Texts.read(x, 1, "m=1");
        int[] met = {1, 3, 5, 7};
        due.is("how many", x.possible(1, -1), 4);
        for (int k = 0; k < met.length; k++) {
            due.is("cut " + k, x.possible(1, k), met[k]);
        }
        due.is("not so many", x.possible(1, 4), -5);
        due.is("far above", x.possible(1, MOST), -5);
        due.is("k below", x.possible(1, -2), -1);
        due.is("no c", x.possible(3, 0), -1);
        due.is("c below", x.possible(-1, 0), -1);
        Texts.read(x, 0, "m=3");
        due.is("none meets", x.possible(0, -1), 0);
        due.is("not the first", x.possible(0, 0), -5);
        x.back();
        due.is("behind back()", x.possible(1, -1), 2);
    }

    private void promise25() {
        due.under("promise 25");
        RunCuts x = chain();
        due.is("none told", x.sure(0), -3);
        due.is("no c", x.sure(3), -1);
        due.is("c below", x.sure(-1), -1);
        String[] sure = {"m=1", "c0=0", "x2=9&c0=2", "c1=1", "c0+c1=2", "1=1"};
        String[] unsure = {"x2=9&c0=1", "c0=2&c1=1", "1=2", "c0=1&c1=2", "x0=1&m=1&c1=0"};
        for (String text : sure) {
            Texts.read(x, 0, text);
            due.is(text, x.sure(0), 1);
        }
        for (String text : unsure) {
            Texts.read(x, 0, text);
            due.is(text, x.sure(0), 0);
        }
    }

    private void promise26() {
        due.under("promise 26");
        RunCuts x = chain();
        due.is("none told", x.around(0, 0), -3);
        due.is("NONE ahead of STATE", x.around(0, -2), -1);
        due.is("no c", x.around(3, 0), -1);
        due.is("c below", x.around(-1, 0), -1);
        Texts.read(x, 0, "x2=9&c0=1");
        expectWay(x, new int[] {0, 0, 1, 1, 2});
        Texts.read(x, 0, "c0=2&c1=1");
        expectWay(x, new int[] {0, 1, 1, 0, 2});
        Texts.read(x, 0, "c0=2&c2=0");
        expectWay(x, new int[] {0, 1, 1, 2, 0});
        Texts.read(x, 0, "m=1");
        due.is("sure: how many", x.around(0, -1), -5);
        due.is("sure: the first", x.around(0, 0), -5);
        due.is("sure: k below", x.around(0, -2), -1);
        RunCuts none = new RunCuts();
        Texts.read(none, 0, "1=2");
        due.is("no steps", none.around(0, -1), 0);
        due.is("not one", none.around(0, 0), -5);
    }

    private void expectWay(RunCuts x, int[] steps) {
        due.is("how many", x.around(0, -1), steps.length);
        for (int k = 0; k < steps.length; k++) {
            due.is("step " + k, x.around(0, k), steps[k]);
        }
        due.is("no more", x.around(0, steps.length), -5);
        due.is("far above", x.around(0, MOST), -5);
        due.is("k below", x.around(0, -2), -1);
    }

    private void promise27() {
        due.under("promise 27");
        RunCuts x = chain();
        due.is("none told", x.slice(0, 0), -3);
        due.is("NONE ahead of STATE", x.slice(0, -2), -1);
        due.is("no c", x.slice(3, 0), -1);
        due.is("c below", x.slice(-1, 0), -1);
        expectSlice(x, "m=1", new int[] {1, 3, 5, 7});
        expectSlice(x, "c0=1&c1=1|c0=2&c1=0", new int[] {1, 2, 5, 6});
        expectSlice(x, "m=5", new int[0]);
        expectSlice(x, "c2=1", new int[] {4, 8});
        expectSlice(x, "c0=0|c2=1", new int[] {0, 4, 8});
        RunCuts g = grid(2, 2);
        expectSlice(g, "c0=2&c1=0|c0=0&c1=2", new int[] {0, 2, 6, 8});
        expectSlice(g, "c0=1&c1=0|c0=0&c1=2", new int[] {0, 2, 3, 5});
        expectSlice(g, "c0+c1=2", new int[] {0, 1, 2, 3, 4, 5, 6, 7, 8});
    }

    private void expectSlice(RunCuts x, String text, int[] cuts) {
        Texts.read(x, 0, text);
        due.is(text + ": how many", x.slice(0, -1), cuts.length);
        for (int k = 0; k < cuts.length; k++) {
            due.is(text + ": cut " + k, x.slice(0, k), cuts[k]);
        }
        due.is(text + ": no more", x.slice(0, cuts.length), -5);
        due.is(text + ": k below", x.slice(0, -2), -1);
    }

    private void promise28() {
        due.under("promise 28");
        RunCuts x = chain();
        due.is("none told", x.regular(2), -3);
        due.is("no c", x.regular(3), -1);
        due.is("c below", x.regular(-1), -1);
        String[] regular = {"m=1", "c2=1", "1=1", "c0=0|c2=1", "c0=2&c1=2", "m=5"};
        String[] not = {"c0=1&c1=1|c0=2&c1=0", "c0+c1=2", "c0=2&c1=0|c1=2"};
        for (String text : regular) {
            Texts.read(x, 2, text);
            due.is(text, x.regular(2), 1);
        }
        for (String text : not) {
            Texts.read(x, 2, text);
            due.is(text, x.regular(2), 0);
        }
    }

    private void promise29() {
        due.under("promise 29");
        RunCuts x = chain();
        due.is("none told", x.least(0, 0, 1), -3);
        due.is("NONE ahead of STATE", x.least(0, 0, 3), -1);
        Texts.read(x, 0, "c0=1&c1=1|c0=2&c1=0");
        due.is("of event 1 of 0: a cut that does not meet it", x.least(0, 0, 1), 1);
        due.is("of event 2 of 0", x.least(0, 0, 2), 5);
        due.is("of event 1 of 1", x.least(0, 1, 1), 2);
        due.is("of event 2 of 1", x.least(0, 1, 2), -5);
        due.is("of event 1 of 2", x.least(0, 2, 1), -5);
        due.is("event 0", x.least(0, 0, 0), -1);
        due.is("event 2 of 2", x.least(0, 2, 2), -1);
        due.is("no p", x.least(0, 3, 1), -1);
        due.is("p below", x.least(0, -1, 1), -1);
        due.is("no c", x.least(3, 0, 1), -1);
        due.is("c below", x.least(-1, 0, 1), -1);
        Texts.read(x, 0, "m=1");
        due.is("m=1: of event 2 of 1", x.least(0, 1, 2), 3);
        due.is("m=1: of event 1 of 1", x.least(0, 1, 1), 3);
        due.is("m=1: of event 1 of 2", x.least(0, 2, 1), -5);
        RunCuts g = grid(5, 5);
        Texts.read(g, 0, "c0=5&c1=2|c0=4&c1=3");
        due.is("of event 3 of five", g.least(0, 0, 3), g.which(42));
        due.is("of event 4 of five", g.least(0, 0, 4), g.which(42));
        due.is("of event 5 of five", g.least(0, 0, 5), g.which(52));
        due.is("of event 3 of the other", g.least(0, 1, 3), g.which(43));
        due.is("of event 4 of the other", g.least(0, 1, 4), -5);
    }

    private void promise30() {
        due.under("promise 30");
        RunCuts x = new RunCuts();
        due.is("none told", x.forget(0), -3);
        due.is("no c", x.forget(3), -1);
        due.is("c below", x.forget(-1), -1);
        Texts.read(x, 0, "1=1");
        Texts.read(x, 1, "1=2");
        due.is("forget", x.forget(0), 1);
        due.is("it is none", x.sure(0), -3);
        due.is("the other stays", x.sure(1), 0);
        due.is("again", x.forget(0), -3);
        due.is("conditions", x.count(4), 1);
    }

    private void promise31() {
        due.under("promise 31");
        RunCuts x = chain();
        due.is("mark", x.mark(1, 2, 1), 0);
        due.is("again", x.mark(1, 2, 1), 1);
        due.is("marks", x.count(3), 1);
        due.is("another", x.mark(0, 1, 1), 0);
        due.is("marks", x.count(3), 2);
        due.is("unmark", x.mark(1, 2, 0), 1);
        due.is("again", x.mark(1, 2, 0), 0);
        due.is("marks", x.count(3), 1);
        due.is("is 2", x.mark(0, 1, 2), -2);
        due.is("is -1", x.mark(0, 1, -1), -2);
        due.is("it stayed", x.eventOf(0, 1, 3), 1);
        due.is("NONE ahead of BAD", x.mark(0, 3, 2), -1);
        due.is("the start", x.mark(0, 0, 1), -1);
        due.is("no p", x.mark(3, 1, 1), -1);
        due.is("p below", x.mark(-1, 1, 1), -1);
    }

    private void promise32() {
        due.under("promise 32");
        RunCuts x = chain();
        due.is("no marks", x.line(), 0);
        x.mark(2, 1, 1);
        due.is("what it took is not in", x.line(), 0);
        x.mark(0, 1, 1);
        due.is("100", x.line(), 1);
        x.mark(1, 2, 1);
        due.is("121", x.line(), 4);
        x.mark(0, 2, 1);
        due.is("221", x.line(), 8);
        x.mark(0, 1, 0);
        due.is("221 still", x.line(), 8);
        x.mark(1, 2, 0);
        x.mark(1, 1, 1);
        due.is("210", x.line(), 6);
        x.mark(0, 2, 0);
        due.is("all go back to their starts", x.line(), 0);
    }

    private void promise33() {
        due.under("promise 33");
        RunCuts x = new RunCuts();
        int[] bad = {31, 127, 0, -1, LEAST, MOST};
        for (int letter : bad) {
            due.is("feed " + letter, x.feed(letter), -2);
        }
        due.is("the least", x.feed(32), 1);
        due.is("the greatest", x.feed(126), 2);
        for (int i = 3; i <= 60; i++) {
            due.is("byte " + i, x.feed('a'), i);
        }
        due.is("full", x.feed('a'), -4);
        due.is("BAD ahead of FULL", x.feed(31), -2);
        due.is("bytes", x.count(5), 60);
    }

    private void promise34() {
        due.under("promise 34");
        RunCuts x = new RunCuts();
        due.is("empty", x.wipe(), 0);
        Texts.feed(x, "1=");
        due.is("two", x.wipe(), 2);
        due.is("none left", x.count(5), 0);
        due.is("nothing of it is read", Texts.read(x, 0, "1=1"), 3);
    }

    private void promise35() {
        due.under("promise 35");
        RunCuts x = new RunCuts();
        due.is("three", Texts.tell(x, "e 0 -5;t 1 0 99;s 1 -00"), 3);
        due.is("the tape is empty", x.count(5), 0);
        due.is("events", x.count(1), 3);
        due.is("its value", x.eventOf(0, 1, 1), 95);
        due.is("it sends", x.eventOf(0, 1, 0), 1);
        due.is("it takes", x.eventOf(1, 1, 0), 2);
        due.is("two figures", x.eventOf(1, 1, 1), 199);
        due.is("a step", x.eventOf(1, 2, 0), 0);
        due.is("less 0", x.eventOf(1, 2, 1), 100);
        due.is("ten", Texts.tell(fresh(2), "s 0 1;s 1 1;s 0 1;s 1 1;s 0 1;s 1 1;s 0 1;s 1 1;s 0 1;s 1 1"), 10);
        due.is("two figures of 0", Texts.tell(fresh(1), "s 0 00"), 1);
        due.is("least value", Texts.tell(fresh(1), "s 0 -99"), 1);
    }

    private static RunCuts fresh(int n) {
        RunCuts x = new RunCuts();
        x.processes(n);
        return x;
    }

    private void promise35Faults() {
        due.under("promise 35, faults");
        String[] texts = {
            "", "s", "s ", "s 0", "s 0 ", "s 0 -", "s 0 1;", "x", "s0 1", "s  0 1", "s 2 1", "s 0 1 ", "s 0 100", "s 0 --1", "s 0 +1",
            "s 0 1;;", "s 0 1,s", "t 0 1", "t 0 1 ", "t 2 0 1", "t 0 -1 1", "t 0 10 1", "e 0 0 1", "s 00 1", ";s 0 1", "s 0 1;s 5 1", "S 0 1",
            "s -1 1", "s 0 1-", "s 0 1; s 1 1", "t", "t 0", "t 0 ", "e 1", "s 0 x"
        };
        int[] faults = {
            0, 1, 2, 3, 4, 5, 6, 0, 1, 2, 2, 5, 6, 5, 4,
            6, 5, 5, 6, 2, 4, 5, 5, 3, 0, 8, 0,
            2, 5, 6, 1, 3, 4, 3, 4
        };
        for (int i = 0; i < texts.length; i++) {
            RunCuts x = new RunCuts();
            due.is("tell " + texts[i], Texts.tell(x, texts[i]), -100 - faults[i]);
            due.is("no events of " + texts[i], x.count(1), 0);
            due.is("an empty tape behind " + texts[i], x.count(5), 0);
        }
        due.is("a fourth process", Texts.tell(fresh(4), "s 3 1"), 1);
        due.is("no second process", Texts.tell(fresh(1), "s 1 1"), -102);
    }

    private void promise35Refusals() {
        due.under("promise 35, refusals");
        RunCuts x = new RunCuts();
        due.is("no message", Texts.tell(x, "t 0 0 1"), -300);
        due.is("the tape is empty", x.count(5), 0);
        due.is("message 9", Texts.tell(x, "e 0 1;t 0 9 1;s 0 1"), -301);
        due.is("what is ahead stays", x.count(1), 1);
        due.is("taken twice", Texts.tell(x, "t 1 0 1;s 1 7;t 1 0 1"), -302);
        due.is("events", x.count(1), 3);
        due.is("conditions see it", Texts.read(x, 0, "x1=7"), 4);
        due.is("in one cut", x.possible(0, -1), 1);
        due.is("six events", Texts.tell(x, "s 1 1;s 1 1;s 1 1;s 1 1"), -303);
        due.is("a fault ahead of a refusal", Texts.tell(x, "s 1 1;s 1"), -109);
        RunCuts full = new RunCuts();
        due.is("nine messages", Texts.tell(full, "e 0 1;e 0 1;e 0 1;e 0 1;e 1 1;e 1 1;e 1 1;e 1 1;e 0 1"), -308);
    }

    private void promise36() {
        due.under("promise 36");
        RunCuts x = new RunCuts();
        due.is("list", x.list(0, 20), 1);
        due.is("empty", x.list(2, 0), 1);
        due.is("there", x.count(6), 2);
        due.is("21", x.list(0, 21), -2);
        due.is("-2", x.list(0, -2), -14);
        due.is("greatest int", x.list(0, MOST), -2);
        due.is("least int", x.list(0, LEAST), -14);
        due.is("no list", x.list(3, 0), -1);
        due.is("below", x.list(-1, 0), -1);
        due.is("NONE ahead of BAD", x.list(3, 21), -1);
        x.lay(0, 19, 5);
        due.is("anew", x.list(0, 20), 1);
        due.is("all 0", x.get(0, 19), 0);
        x.lay(0, 2, 5);
        x.list(0, 2);
        x.list(0, 3);
        due.is("0 again", x.get(0, 2), 0);
        due.is("missing", x.list(0, -1), 1);
        due.is("missing again", x.list(0, -1), 1);
        due.is("there", x.count(6), 1);
    }

    private void promise37And38() {
        due.under("promises 37, 38");
        RunCuts x = new RunCuts();
        due.is("missing", x.lay(0, 0, 1), -11);
        due.is("no list", x.lay(3, 0, 1), -1);
        due.is("below", x.lay(-1, 0, 1), -1);
        due.is("get of a missing one", x.get(0, 0), Long.MIN_VALUE);
        x.list(0, 2);
        due.is("no place", x.lay(0, 2, 1), -13);
        due.is("place below", x.lay(0, -1, 1), -13);
        due.is("lay", x.lay(0, 1, Long.MAX_VALUE), 1);
        due.is("lay the least", x.lay(0, 0, Long.MIN_VALUE), 1);
        due.is("get", x.get(0, 1), Long.MAX_VALUE);
        due.is("get the least", x.get(0, 0), Long.MIN_VALUE);
        due.is("get 2", x.get(0, 2), Long.MIN_VALUE);
        due.is("get -1", x.get(0, -1), Long.MIN_VALUE);
        due.is("get of no list", x.get(3, 0), Long.MIN_VALUE);
        due.is("get of a list below", x.get(-1, 0), Long.MIN_VALUE);
        x.list(1, 0);
        due.is("a list without places", x.lay(1, 0, 0), -13);
    }

    private void promise39() {
        due.under("promise 39");
        RunCuts x = chain();
        due.is("none told", x.film(0, 0), -3);
        due.is("the list stays", x.count(6), 0);
        due.is("no list", x.film(3, 0), -1);
        due.is("list below", x.film(-1, 0), -1);
        due.is("no c", x.film(0, 3), -1);
        due.is("c below", x.film(0, -1), -1);
        Texts.read(x, 0, "m=1");
        x.list(0, 20);
        x.lay(0, 4, 9);
        due.is("film", x.film(0, 0), 4);
        long[] met = {1, 3, 5, 7, Long.MIN_VALUE};
        for (int i = 0; i < met.length; i++) {
            due.is("place " + i, x.get(0, i), met[i]);
        }
        due.is("of a missing one", x.film(2, 0), 4);
        Texts.read(x, 1, "m=7");
        due.is("none meets", x.film(2, 1), 0);
        due.is("an empty list", x.lay(2, 0, 0), -13);
        due.is("it is there", x.count(6), 2);
        RunCuts full = fullest();
        Texts.read(full, 0, "c3>0");
        due.is("20 at most", full.film(0, 0), 20);
        due.is("the 20th", full.get(0, 19), 23);
    }

    private void promise40() {
        due.under("promise 40");
        RunCuts x = chain();
        due.is("no list", x.judge(3, 0), -1);
        due.is("list below", x.judge(-1, 0), -1);
        due.is("no c", x.judge(0, 3), -1);
        due.is("c below", x.judge(0, -1), -1);
        due.is("MISSING ahead of STATE", x.judge(0, 0), -11);
        x.list(0, 0);
        due.is("none told", x.judge(0, 0), -3);
        Texts.read(x, 0, "m=1");
        due.is("empty", x.judge(0, 0), 100);
        x.film(0, 0);
        due.is("all", x.judge(0, 0), 104);
        x.lay(0, 2, 6);
        due.is("the third is otherwise", x.judge(0, 0), 2);
        x.list(0, 3);
        x.lay(0, 0, 1);
        x.lay(0, 1, 3);
        x.lay(0, 2, 5);
        due.is("the first three", x.judge(0, 0), 103);
        x.list(0, 5);
        for (int i = 0; i < 4; i++) {
            x.lay(0, i, x.possible(0, i));
        }
        due.is("beyond them", x.judge(0, 0), 4);
        x.lay(0, 1, 5);
        x.lay(0, 2, 3);
        due.is("not rising", x.judge(0, 0), 1);
        x.list(0, 1);
        x.lay(0, 0, (1L << 32) + 1);
        due.is("a long is compared whole", x.judge(0, 0), 0);
        x.lay(0, 0, 3);
        due.is("one that meets, but not the first", x.judge(0, 0), 0);
        Texts.read(x, 0, "m=7");
        due.is("none meets", x.judge(0, 0), 0);
    }

    private void promise41And42() {
        due.under("promises 41, 42");
        RunCuts x = chain();
        due.is("no image", x.undo(), -3);
        x.start(2, 8);
        x.mark(1, 1, 1);
        Texts.read(x, 0, "m=1");
        x.list(0, 2);
        due.is("image", x.image(), 5);
        x.list(1, 2);
        x.lay(0, 0, 6);
        x.processes(1);
        Texts.tell(x, "s 0 4;s 0 5");
        Texts.read(x, 1, "x0=4");
        Texts.feed(x, "abc");
        due.is("undo", x.undo(), 5);
        int[] counts = {3, 5, 2, 1, 1, 3, 2};
        for (int what = 0; what < counts.length; what++) {
            due.is("count " + what, x.count(what), counts[what]);
        }
        due.is("the lists stay", x.get(0, 0), 6);
        due.is("the start", x.value(0, 2), 108);
        due.is("the mark", x.eventOf(1, 1, 3), 1);
        due.is("the value", x.eventOf(0, 1, 1), 105);
        due.is("the clock", x.clock(2, 1, 0), 1);
        due.is("the cuts", x.cuts(), 9);
        due.is("the ways", x.ways(-1), 4);
        due.is("the condition", x.possible(0, -1), 4);
        due.is("not the later one", x.possible(1, -1), -3);
        due.is("the order", x.back(), 4);
        due.is("of process 0", x.eventOf(0, 2, 0), -1);
        due.is("back", x.back(), 3);
        due.is("not taken", x.message(1, 2), -5);
        x.forget(0);
        due.is("undo once more", x.undo(), 5);
        due.is("taken", x.message(1, 2), 2);
        due.is("the condition", x.possible(0, -1), 4);
        x.back();
        due.is("another image", x.image(), 4);
        x.back();
        due.is("back to it", x.undo(), 4);
    }

    /** Behind the image all that it holds is told otherwise, as far as there is room. */
    private void imageHoldsAll() {
        due.under("promise 42, all of it");
        RunCuts x = new RunCuts();
        x.processes(4);
        for (int m = 0; m < 8; m++) {
            x.send(m % 4, m);
        }
        for (int m = 0; m < 8; m++) {
            x.take((m + 1) % 4, m, 10 + m);
        }
        for (int p = 3; p >= 0; p--) {
            x.step(p, 20 + p);
            x.start(p, 30 + p);
            x.mark(p, p + 1, 1);
        }
        String[] conditions = {"m>3&x0=10", "c0+c1=c2", "x3=23"};
        for (int c = 0; c < 3; c++) {
            Texts.read(x, c, conditions[c]);
        }
        long[] before = all(x);
        x.image();
        tellOtherwise(x);
        x.undo();
        expectAll(x, before);
        x.processes(1);
        x.undo();
        expectAll(x, before);
        for (int left = 19; left >= 0; left--) {
            due.is("back to " + left, x.back(), left);
        }
        due.is("messages", x.count(2), 0);
    }

    private static void tellOtherwise(RunCuts x) {
        x.processes(4);
        for (int i = 0; i < 20; i++) {
            x.step(i / 5, -50 - i);
            x.start(i / 5, -i);
            x.mark(i / 5, i % 5 + 1, 1);
        }
        for (int i = 0; i < 20; i++) {
            x.back();
        }
        for (int m = 0; m < 8; m++) {
            x.send(3 - m / 4, -m);
        }
        for (int m = 0; m < 8; m++) {
            x.take(m / 4, 7 - m, -10 - m);
        }
        for (int c = 0; c < 3; c++) {
            Texts.read(x, c, "1=1&1=1|1=1&1=1");
        }
    }

    private void expectAll(RunCuts x, long[] before) {
        long[] behind = all(x);
        for (int i = 0; i < before.length; i++) {
            due.is("answer " + i, behind[i], before[i]);
        }
    }

    /** Answers that tell all of the run and its conditions. */
    private static long[] all(RunCuts x) {
        long[] answers = new long[4 * 5 * 8 + 8 * 4 + 4 + 3 * 5 + 3];
        int i = 0;
        for (int p = 0; p < 4; p++) {
            answers[i++] = x.value(0, p);
            for (int k = 1; k <= 5; k++) {
                for (int what = 0; what < 4; what++) {
                    answers[i++] = x.eventOf(p, k, what);
                    answers[i++] = x.clock(p, k, what);
                }
            }
        }
        for (int m = 0; m < 8; m++) {
            for (int what = 0; what < 4; what++) {
                answers[i++] = x.message(m, what);
            }
        }
        for (int c = 0; c < 3; c++) {
            answers[i++] = x.possible(c, -1);
            answers[i++] = x.sure(c);
            answers[i++] = x.slice(c, -1);
            answers[i++] = x.regular(c);
            answers[i++] = x.possible(c, 3);
        }
        answers[i++] = x.cuts();
        answers[i++] = x.ways(-1);
        answers[i++] = x.line();
        return answers;
    }

    private void promise43() {
        due.under("promise 43");
        RunCuts x = chain();
        x.mark(0, 1, 1);
        x.mark(0, 2, 1);
        x.mark(2, 1, 1);
        Texts.read(x, 0, "1=1");
        Texts.read(x, 2, "1=1");
        x.list(0, 0);
        Texts.feed(x, "abcd");
        int[] counts = {3, 5, 2, 3, 2, 4, 1};
        for (int what = 0; what < counts.length; what++) {
            due.is("count " + what, x.count(what), counts[what]);
        }
        RunCuts full = fullest();
        for (int i = 0; i < 20; i++) {
            full.mark(i % 4, i / 4 + 1, 1);
        }
        due.is("the most marks", full.count(3), 20);
        due.is("the most events", full.count(1), 20);
        due.is("count 7", x.count(7), -1);
        due.is("count -1", x.count(-1), -1);
    }
}
