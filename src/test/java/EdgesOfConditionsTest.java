/** The edges that the document names for conditions: its terms, part 2, and promises 22 to 30. */
public final class EdgesOfConditionsTest {
    private static final String FIGURES = "0123456789";
    private static final String SIGNS = "+-";
    private static final String COMPARES = "=<>";
    private static final String UNITS = "xcm" + FIGURES;
    private static final String TESTS = "!(" + UNITS;
    /** Two processes with five steps each, values 1 .. 5. */
    private static final String[] GRID = {
        "step 0 1", "step 0 2", "step 0 3", "step 0 4", "step 0 5", "step 1 1", "step 1 2", "step 1 3", "step 1 4", "step 1 5"
    };

    private final Due due = new Due();

    public static void main(String[] args) {
        EdgesOfConditionsTest test = new EdgesOfConditionsTest();
        test.read();
        test.faults();
        test.eachByte();
        test.processesThatAreNotThere();
        test.depth();
        test.anyNumberOfTimes();
        test.units();
        test.holds();
        test.possible();
        test.sure();
        test.around();
        test.slice();
        test.regular();
        test.least();
        test.forget();
        test.noneAndStateOfEach();
        test.due.end();
    }

    private Edges at(String sentence, String... world) {
        return new Edges(due, sentence, world);
    }

    /** The rich world with that text on the tape. */
    private static String[] withTape(String text) {
        return Edges.join(Worlds.RICH, "wipe", "TAPE " + text);
    }

    /** The rich world with that text as condition 0. */
    private static String[] withCondition(String text) {
        return Edges.join(Worlds.RICH, "wipe", "TAPE " + text, "read 0");
    }

    private void read() {
        at("22: NONE (THE TAPE stays)", Worlds.RICH).keepsFor("read #", "NONE", -1, 3, "MIN", "MAX");
        at("22: NONE ahead of a FAULT, THE TAPE stays", withTape("x0=")).keepsFor("read #", "NONE", -1, 3);
        at("22: CONDITIONS 0 .. 2", Worlds.RICH)
                .plays("read 1 -> 8", "count 4 -> 3", "TAPE m=0", "read 0 -> 3", "TAPE m=2", "read 2 -> 3", "count 4 -> 3", "possible 0 -1 -> 5", "possible 2 -1 -> 0");
        at("22: becomes that CONDITION alone", Worlds.RICH).plays("read 1 -> 8", "possible 0 -1 -> 6", "possible 1 -1 -> 5", "possible 2 -1 -> 4");
        at("22: THE TAPE is empty behind it", Worlds.RICH).plays("read 1 -> 8", "count 5 -> 0", "wipe -> 0", "read 1 -> -100");
        at("22: a FAULT changes nothing but THE TAPE", withTape("x0=1|m>")).keepsButTape("read 0 -> -107", "read 1 -> -107", "read 2 -> -107");
        at("22: no bytes", Edges.join(Worlds.RICH, "wipe")).keepsButTape("read 0 -> -100", "read 1 -> -100");
        at("22: nothing of a CONDITION that was there stays", "TAPE !1=2", "read 0").plays("TAPE 1=2", "read 0 -> 3", "possible 0 -1 -> 0");
        at("22: nothing of a text that was read stays", "TAPE !1=2", "read 0").plays("TAPE 1=2", "read 1 -> 3", "possible 1 -1 -> 0", "possible 0 -1 -> 1");
        at("22: the fewest bytes", withTape("1=1")).plays("read 1 -> 3", "possible 1 -1 -> 11");
    }

    private void fault(String text, int place) {
        at("22: FAULT of " + text, withTape(text)).keepsButTape("read 1 -> " + (-100 - place), "read 0 -> " + (-100 - place));
    }

    private void faults() {
        fault("?0=1", 0);
        fault("x0=1;", 4);
        fault("x0=1 ", 4);
        fault(" x0=1", 0);
        fault("1&1=1", 1);
        fault("1=1=1", 3);
        fault("1=1&1", 5);
        fault("1=1|", 4);
        fault("1=1&&", 4);
        fault("1+", 2);
        fault("1-", 2);
        fault("1=", 2);
        fault("1=1+", 4);
        fault("m", 1);
        fault("c", 1);
        fault("(", 1);
        fault("(1=1", 4);
        fault("(1=1)&", 6);
        fault("!", 1);
        fault("1=1)", 3);
        fault("(1=1))", 5);
        fault("()", 1);
        fault("(1)=1", 2);
        fault("-1=1", 0);
        fault("1=-1", 2);
        fault("1=1!", 3);
        fault("1+1+1+1+1+1+1+1+1+1+1+1+1+1+1+1+1+1+1+1+1+1+1+1+1+1+1+1+1+1", 59);
        fault("1+1+1+1+1+1+1+1+1+1+1+1+1+1+1+1+1+1+1+1+1+1+1+1+1+1+1+1+1+1=", 60);
        fault("1+1+1+1+1+1+1+1+1+1+1+1+1+1+1+1+1+1+1+1+1+1+1+1+1+1+1+1=29&?", 59);
    }

    /** Behind a text the bytes by which it goes on; each other byte is the fault. */
    private void eachByte() {
        due.under("22: FAULT: the first byte with which no TEXT goes on");
        goesOnBy("", TESTS);
        goesOnBy("x", "01");
        goesOnBy("c", "01");
        goesOnBy("m", SIGNS + COMPARES);
        goesOnBy("x1", SIGNS + COMPARES);
        goesOnBy("c0", SIGNS + COMPARES);
        goesOnBy("1", FIGURES + SIGNS + COMPARES);
        goesOnBy("12", SIGNS + COMPARES);
        goesOnBy("00", SIGNS + COMPARES);
        goesOnBy("1+", UNITS);
        goesOnBy("1-", UNITS);
        goesOnBy("1+1", FIGURES + SIGNS + COMPARES);
        goesOnBy("1=", UNITS);
        goesOnBy("1<", UNITS);
        goesOnBy("1>", UNITS);
        goesOnBy("1=1", FIGURES + SIGNS + "&|");
        goesOnBy("1=12", SIGNS + "&|");
        goesOnBy("1=m", SIGNS + "&|");
        goesOnBy("1=x0", SIGNS + "&|");
        goesOnBy("1=1-", UNITS);
        goesOnBy("1=1&", TESTS);
        goesOnBy("1=1|", TESTS);
        goesOnBy("!", TESTS);
        goesOnBy("!1=m", SIGNS + "&|");
        goesOnBy("(", TESTS);
        goesOnBy("(m", SIGNS + COMPARES);
        goesOnBy("(1=m", SIGNS + "&|)");
        goesOnBy("(1=1", FIGURES + SIGNS + "&|)");
        goesOnBy("(1=1&", TESTS);
        goesOnBy("(1=1)", "&|");
        goesOnBy("((1=1)", "&|)");
        goesOnBy("!(1=1)", "&|");
        goesOnBy("!!!!", TESTS);
        goesOnBy("!!!!!", UNITS);
        goesOnBy("(((((", UNITS);
        goesOnBy("(!(!(", UNITS);
        goesOnBy("((((1=1)|", TESTS);
        goesOnBy("(((((1=1)|", TESTS);
        goesOnBy("(((((1=1|", UNITS);
    }

    private void goesOnBy(String text, String bytes) {
        for (int letter = 32; letter <= 126; letter++) {
            String longer = text + (char) letter;
            int answer = Texts.read(new RunCuts(), 0, longer);
            if (bytes.indexOf(letter) < 0) {
                due.is("read " + longer, answer, -100 - text.length());
            } else {
                due.isTrue("read " + longer + " goes on", answer == longer.length() || answer == -100 - longer.length());
            }
        }
    }

    private void processesThatAreNotThere() {
        for (int n = 1; n <= 4; n++) {
            String world = "processes " + n;
            int last = n - 1;
            at("22: of a PROCESS that is not there its figure, of " + n, world, "TAPE 1=1&x" + n + "=1").keepsButTape("read 0 -> -105");
            at("22: so with c, of " + n, world, "TAPE 1=1&c" + n + "=1").keepsButTape("read 0 -> -105");
            at("22: the last PROCESS, of " + n, world, "TAPE x" + last + "=c" + last).plays("read 0 -> 5", "sure 0 -> 1");
            at("22: PROCESS 9, of " + n, world, "TAPE x9").keepsButTape("read 0 -> -101");
        }
    }

    private void depth() {
        String[] five = {"(((((1=1)))))", "!!!!!1=2", "!(!(!1=2))", "((!!(1=1)))", "(((((1=1)))))&(((((1=1)))))|!!!!!1=1", "(((((1=1)|1=1)|1=1)|1=1)|!1=1)"};
        for (String text : five) {
            at("22: ( and ! are 5 deep", withTape(text)).plays("read 1 -> " + text.length(), "possible 1 -1 -> 11");
        }
        String[] six = {"((((((1=1))))))", "!!!!!!1=1", "(!(!(!1=1)))", "!!!!!(1=1)", "(((((!1=1)))))", "((((((", "!!!!!!"};
        for (String text : six) {
            at("22: ( and ! are 5 deep at most, together", withTape(text)).keepsButTape("read 0 -> -105");
        }
        at("22: 5 deep, then 6", withTape("!(((((1=1)))))")).keepsButTape("read 0 -> -105");
        at("22: deep in the second part", withTape("!!!!!1=1&!!!!!!1=1")).keepsButTape("read 0 -> -114");
        at("22: deep again behind )", withTape("((((1=1)&((1=1")).keepsButTape("read 0 -> -114");
        at("22: too deep again behind )", withTape("((((1=1)&(((1=1")).keepsButTape("read 0 -> -111");
    }

    private void anyNumberOfTimes() {
        String ors = "1=2|1=2|1=2|1=2|1=2|1=2|1=2|1=2|1=2|1=2|1=2|1=2|1=2|1=2|";
        String ands = ors.replace('|', '&').replace('2', '1');
        String sum = "1+1+1+1+1+1+1+1+1+1+1+1+1+1+1+1+1+1+1+1+1+1+1+1+1+1+1+1+1=";
        met("22: any number of times |, one is met", ors + "1=1", 11);
        met("22: any number of times |, none is met", ors + "1=2", 0);
        met("22: any number of times &, all are met", ands + "1=1", 11);
        met("22: any number of times &, one is not met", ands + "1=2", 0);
        met("22: 60 bytes", ors + "1=01", 11);
        met("22: any number of times +", sum.substring(2) + "28", 11);
        met("22: any number of times + is no more", sum.substring(2) + "29", 0);
        met("22: any number of times -", "99" + sum.substring(3).replace('+', '-') + "72", 11);
        met("22: any number of numbers on the right side", "28=" + sum.substring(2, sum.length() - 1), 11);
        met("22: no times |, no times &", "1=1", 11);
        at("22: a 61st byte does not come", withTape(ors + "1=01")).plays("feed 49 -> FULL", "read 0 -> 60");
    }

    private void met(String sentence, String text, int cuts) {
        at(sentence + ": " + text, withTape(text)).plays("count 5 -> " + text.length(), "read 1 -> " + text.length(), "possible 1 -1 -> " + cuts);
    }

    private void units() {
        met("22: a number of 1 figure", "9-9=0", 11);
        met("22: a number of 2 figures", "99-90=09", 11);
        met("22: VALUE as of a CUT, at the START", "x2=0-9", 7);
        met("22: VALUE below 0", "x1<0", 2);
        met("22: how many of its EVENTS are IN it: none", "c2=0", 7);
        met("22: how many of its EVENTS are IN it: all", "c2=2", 2);
        met("22: no MESSAGES are UNDER WAY", "m=0", 5);
        met("22: = and not <", "c0=1", 5);
        met("22: < and not =", "c0<1", 1);
        met("22: > and not =", "c0>1", 5);
        met("22: & ahead of |", "1=1|1=1&1=2", 11);
        met("22: ( ) ahead of &", "(1=1|1=1)&1=2", 0);
        met("22: ! is of one TEST", "!1=2&1=2", 0);
        met("22: - is of one UNIT", "9-3+3=9", 11);
        at("22: all MESSAGES are UNDER WAY", "4* send 0 1", "4* send 1 1", "TAPE m=8").plays("read 0 -> 3", "possible 0 -1 -> 1", "possible 0 0 -> 24");
        at("22: all EVENTS are IN it", Edges.join(Worlds.FULLEST, "TAPE c0+c1+c2+c3>19")).plays("read 0 -> 14", "possible 0 -1 -> 1", "possible 0 0 -> 1295");
        at("22: VALUES -99 and 99", "start 0 -99", "start 1 99", "TAPE x0+99=0&x1=99").plays("read 0 -> 13", "holds 0 0 -> 1");
    }

    private void holds() {
        at("23: NONE: i", Worlds.RICH).keepsFor("holds 0 #", "NONE", -1, 11, "MIN", "MAX").keeps("holds 0 0 -> 0", "holds 0 10 -> 1", "holds 2 10 -> 0");
        at("23: NONE ahead of STATE", Worlds.RICH).keepsFor("holds 1 #", "NONE", -1, 11).keeps("holds 3 11 -> NONE", "holds 1 0 -> STATE", "holds 1 10 -> STATE");
        at("23: of the most", Edges.join(Worlds.FULLEST, "TAPE c3=5", "read 2")).keeps("holds 2 1295 -> 1", "holds 2 1294 -> 0", "holds 2 1296 -> NONE");
    }

    private void possible() {
        at("24: the k-th, from 0", Worlds.RICH).keeps("possible 0 0 -> 1", "possible 0 5 -> 10", "possible 2 0 -> 1", "possible 2 3 -> 7");
        at("24: k -1: how many", Worlds.RICH).keeps("possible 0 -1 -> 6", "possible 2 -1 -> 4");
        at("24: NOT: not so many", Worlds.RICH).keepsFor("possible 0 #", "NOT", 6, 7, "MAX").keeps("possible 2 4 -> NOT");
        at("24: none meets it", withCondition("1=2")).keeps("possible 0 -1 -> 0", "possible 0 0 -> NOT");
        at("24: all meet it", Edges.join(Worlds.FULLEST, "TAPE 1=1", "read 0")).keeps("possible 0 -1 -> 1296", "possible 0 1295 -> 1295", "possible 0 1296 -> NOT");
        at("24: NONE: k below -1", Worlds.RICH).keepsFor("possible 0 #", "NONE", -2, "MIN");
        at("24: NONE ahead of STATE", Worlds.RICH).keeps("possible 1 -2 -> NONE", "possible 1 -1 -> STATE", "possible 1 99 -> STATE");
    }

    private void sure() {
        String[] sure = {"1=1", "c0=0", "c0+c1+c2=6", "c0+c1+c2=0", "c0+c1+c2=3", "m=1", "c0=1&c1=1|c0=2&c1=1"};
        String[] not = {"1=2", "c0=1&c1=1", "c0=2&c1=0", "c0=1&c2=2", "c0=2&c1=1"};
        for (String text : sure) {
            at("25: each WAY has a CUT that meets " + text, withCondition(text)).keeps("sure 0 -> 1");
        }
        for (String text : not) {
            at("25: a WAY has none that meets " + text, withCondition(text)).keeps("sure 0 -> 0");
        }
        at("25: the one CUT without EVENTS", "TAPE 1=1", "read 0", "TAPE 1=2", "read 1").keeps("sure 0 -> 1", "sure 1 -> 0", "sure 2 -> STATE");
        at("25: the first CUT alone meets it", Edges.join(GRID, "TAPE c0+c1=0", "read 0")).keeps("sure 0 -> 1");
        at("25: the last CUT alone meets it", Edges.join(GRID, "TAPE c0+c1=10", "read 0")).keeps("sure 0 -> 1");
        at("25: a LEVEL but for one CUT", Edges.join(GRID, "TAPE c0+c1=5&c0<5", "read 0")).keeps("sure 0 -> 0");
    }

    private void around() {
        String[] one = withCondition("c0=2&c1=0");
        at("26: step k, from 0", one)
                .keeps("around 0 -1 -> 6", "around 0 0 -> 0", "around 0 1 -> 1", "around 0 2 -> 0", "around 0 3 -> 1", "around 0 4 -> 2", "around 0 5 -> 2");
        at("26: NOT: there are not so many", one).keepsFor("around 0 #", "NOT", 6, 7, "MAX");
        at("26: NOT: it is SURE", Worlds.RICH).keepsFor("around 0 #", "NOT", -1, 0, 5, 6, "MAX");
        at("26: NONE: k below -1", one).keepsFor("around 0 #", "NONE", -2, "MIN");
        at("26: NONE ahead of STATE", Worlds.RICH).keeps("around 1 -2 -> NONE", "around 1 -1 -> STATE", "around 1 0 -> STATE", "around 1 99 -> STATE");
        at("26: no steps", "TAPE 1=2", "read 0", "TAPE 1=1", "read 1").keeps("around 0 -1 -> 0", "around 0 0 -> NOT", "around 1 -1 -> NOT", "around 1 0 -> NOT");
        at("26: the least PROCESS first", Edges.join(Worlds.FULLEST, "TAPE 1=2", "read 0"))
                .plays("around 0 -1 -> 20", "around 0 0 -> 0", "around 0 4 -> 0", "around 0 5 -> 1", "around 0 9 -> 1", "around 0 15 -> 3", "around 0 19 -> 3", "around 0 20 -> NOT");
        at("26: then by the second", Edges.join(GRID, "TAPE c0>c1", "read 0"))
                .plays("around 0 -1 -> 10", "around 0 0 -> 1", "around 0 1 -> 0", "around 0 2 -> 1", "around 0 3 -> 0", "around 0 8 -> 1", "around 0 9 -> 0", "around 0 10 -> NOT");
        at("26: the first CUT meets it", Edges.join(GRID, "TAPE c0+c1=0", "read 0")).keeps("around 0 -1 -> NOT");
        at("26: the last CUT meets it", Edges.join(GRID, "TAPE c0+c1=10", "read 0")).keeps("around 0 -1 -> NOT");
        at("26: a step that leads into a dead end", Edges.join(GRID, "TAPE c0=3&c1<5|c1=5&c0>0&c0<4", "read 0"))
                .plays("around 0 -1 -> NOT", "sure 0 -> 1", "TAPE c0=3&c1<4|c1=4&c0>0&c0<4", "read 0", "around 0 0 -> 1", "around 0 3 -> 1", "around 0 5 -> 0");
    }

    private void slice() {
        at("27: the k-th, from 0", Worlds.RICH).keeps("slice 0 -1 -> 6", "slice 0 0 -> 1", "slice 0 5 -> 10", "slice 2 -1 -> 4", "slice 2 3 -> 7");
        at("27: NOT", Worlds.RICH).keepsFor("slice 0 #", "NOT", 6, 7, "MAX").keeps("slice 2 4 -> NOT");
        at("27: none, if none meets it", withCondition("1=2")).keeps("slice 0 -1 -> 0", "slice 0 0 -> NOT");
        at("27: one alone", withCondition("c0+c1+c2=0")).keeps("slice 0 -1 -> 1", "slice 0 0 -> 0", "slice 0 1 -> NOT");
        at("27: NONE: k below -1", Worlds.RICH).keepsFor("slice 0 #", "NONE", -2, "MIN");
        at("27: NONE ahead of STATE", Worlds.RICH).keeps("slice 1 -2 -> NONE", "slice 1 -1 -> STATE", "slice 1 99 -> STATE");
        at("27: MEET and JOIN of any two", Edges.join(GRID, "TAPE c0=5&c1=0|c0=0&c1=5", "read 0")).keeps("slice 0 -1 -> 4", "slice 0 0 -> 0", "slice 0 1 -> 5", "slice 0 2 -> 30", "slice 0 3 -> 35");
        at("27: MEET and JOIN of those, too", "processes 3", "step 0 1", "step 1 1", "step 2 1", "TAPE c0+c1+c2=1", "read 0").keeps("slice 0 -1 -> 8", "slice 0 0 -> 0", "slice 0 7 -> 7");
        at("27: all", Edges.join(Worlds.FULLEST, "TAPE c0+c1+c2+c3=10", "read 0")).keeps("slice 0 -1 -> 1296", "slice 0 1295 -> 1295", "slice 0 1296 -> NOT");
        at("27: the fewest", Edges.join(GRID, "TAPE c0=c1&c0>1&c0<4", "read 0")).keeps("slice 0 -1 -> 2", "slice 0 0 -> 14", "slice 0 1 -> 21");
    }

    private void regular() {
        String[] regular = {"1=1", "1=2", "m=1", "c0+c1+c2=0", "c0+c1+c2=6", "c0=1&c1=1", "c0=0|c2=2"};
        String[] not = {"c0+c1+c2=2", "c0=1&c1=1|c0=2&c1=0", "!c0+c1=3"};
        for (String text : regular) {
            at("28: just those that meet " + text + " are its SLICE", withCondition(text)).keeps("regular 0 -> 1");
        }
        for (String text : not) {
            at("28: others are in the SLICE of " + text, withCondition(text)).keeps("regular 0 -> 0");
        }
        at("28: without EVENTS", "TAPE 1=1", "read 0", "TAPE 1=2", "read 2").keeps("regular 0 -> 1", "regular 2 -> 1", "regular 1 -> STATE");
    }

    private void least() {
        at("29: of each EVENT", Worlds.RICH)
                .keeps("least 0 0 1 -> 1", "least 0 0 2 -> 6", "least 0 1 1 -> 3", "least 0 1 2 -> 3", "least 0 2 1 -> 5", "least 0 2 2 -> 5");
        at("29: NOT: there is no such CUT", Worlds.RICH).keeps("least 2 1 2 -> NOT", "least 2 2 1 -> NOT", "least 2 1 1 -> 2");
        at("29: NOT: none meets it", withCondition("1=2")).keeps("least 0 0 1 -> NOT", "least 0 2 2 -> NOT");
        at("29: NONE: p", Worlds.RICH).keepsFor("least 0 # 1", "NONE", -1, 3, "MIN", "MAX");
        at("29: NONE: k", Worlds.RICH).keepsFor("least 0 0 #", "NONE", 0, -1, 3, "MIN", "MAX");
        at("29: NONE ahead of STATE", Worlds.RICH).keeps("least 1 3 1 -> NONE", "least 1 0 0 -> NONE", "least 1 0 3 -> NONE", "least 1 0 1 -> STATE");
        at("29: of the last of five", Edges.join(GRID, "TAPE c0>c1", "read 0")).keeps("least 0 0 5 -> 30", "least 0 1 4 -> 34", "least 0 1 5 -> NOT", "least 0 0 6 -> NONE");
        at("29: MEET of all, which may not meet it", Edges.join(GRID, "TAPE c0=2&c1=1|c0=1&c1=2", "read 0")).keeps("least 0 0 1 -> 7", "least 0 1 1 -> 7", "least 0 0 2 -> 13", "least 0 1 2 -> 8", "holds 0 7 -> 0");
    }

    private void forget() {
        at("30: is none any more: 1", Worlds.RICH).plays("forget 0 -> 1", "sure 0 -> STATE", "sure 2 -> 1", "count 4 -> 1", "forget 2 -> 1", "count 4 -> 0");
        at("30: STATE", Worlds.RICH).keeps("forget 1 -> STATE").plays("forget 0 -> 1", "forget 0 -> STATE", "count 4 -> 1");
        at("30: it can be told anew", Worlds.RICH).plays("forget 0 -> 1", "read 0 -> 8", "possible 0 -1 -> 5", "forget 0 -> 1");
        at("30: THE IMAGE has it still", Worlds.RICH).plays("forget 0 -> 1", "undo -> 5", "possible 0 -1 -> 4");
    }

    private void noneAndStateOfEach() {
        String[] calls = {"holds # 0", "possible # -1", "sure #", "around # -1", "slice # -1", "regular #", "least # 0 1", "forget #"};
        for (String call : calls) {
            at("23 .. 30: NONE of " + call, Worlds.RICH).keepsFor(call, "NONE", -1, 3, "MIN", "MAX");
            at("23 .. 30: STATE of " + call, Worlds.RICH).keepsFor(call, "STATE", 1);
            at("23 .. 30: STATE of each of " + call, "step 0 1").keepsFor(call, "STATE", 0, 1, 2);
        }
    }
}
