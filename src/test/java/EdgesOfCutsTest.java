/** The edges that the document names for cuts: its terms, part 1, and promises 12 to 21. */
public final class EdgesOfCutsTest {
    /** Process 1 takes what the last event of process 0 sent; the cuts 1 .. 4 of 1 alone do not hold. */
    private static final String[] TAKEN_LATE = {"4* step 0 1", "send 0 2", "take 1 0 3", "4* step 1 4"};

    private final Due due = new Due();

    public static void main(String[] args) {
        EdgesOfCutsTest test = new EdgesOfCutsTest();
        test.cuts();
        test.cut();
        test.which();
        test.whichIsNone();
        test.level();
        test.next();
        test.meetAndJoin();
        test.under();
        test.value();
        test.ways();
        test.due.end();
    }

    private Edges at(String sentence, String... world) {
        return new Edges(due, sentence, world);
    }

    private void cuts() {
        at("12: with nothing IN it", "processes 4").keeps("cuts -> 1");
        at("12: of one PROCESS", "processes 1", "5* step 0 1").keeps("cuts -> 6");
        at("12: the most", Worlds.FULLEST).keeps("cuts -> 1296");
        at("12: all that is AHEAD of it is IN it", TAKEN_LATE).keeps("cuts -> 11");
        at("12: a MESSAGE that is not taken keeps none off", "send 0 1", "step 1 1").keeps("cuts -> 4").plays("take 1 0 1 -> 2", "cuts -> 5");
        at("12: by its own PROCESS", "send 0 1", "take 0 0 1").keeps("cuts -> 3");
        at("12: all of them in one row", "processes 4", "send 0 1", "take 1 0 1", "send 1 1", "take 2 1 1", "send 2 1", "take 3 2 1").keeps("cuts -> 7");
    }

    private void cut() {
        at("13: NONE", Worlds.RICH).keepsFor("cut #", "NONE", -1, 11, "MIN", "MAX").plays("cut 0 -> 0", "cut 10 -> 222");
        at("13: NONE of the most", Worlds.FULLEST).keepsFor("cut #", "NONE", -1, 1296, "MAX").plays("cut 0 -> 0", "cut 1295 -> 5555");
        at("13: PROCESS 0 the highest", Worlds.FULLEST).plays("cut 1 -> 1", "cut 5 -> 5", "cut 6 -> 10", "cut 36 -> 100", "cut 216 -> 1000", "cut 1294 -> 5554");
        at("13: numbered by their digits", TAKEN_LATE).plays("cut 4 -> 40", "cut 5 -> 50", "cut 6 -> 51", "cut 10 -> 55", "cut 11 -> NONE");
        at("13: of one PROCESS", "processes 1", "5* step 0 1").plays("cut 5 -> 5", "cut 6 -> NONE");
        at("13: behind a change", Worlds.RICH).plays("cut 10 -> 222", "back -> 5", "cut 8 -> 221", "cut 9 -> NONE", "cut 10 -> NONE");
    }

    private void which() {
        at("14: the number of a CUT", TAKEN_LATE).plays("which 0 -> 0", "which 10 -> 1", "which 50 -> 5", "which 51 -> 6", "which 55 -> 10");
        at("14: NOT: it does not HOLD", TAKEN_LATE).keepsFor("which #", "NOT", 1, 5, 11, 41, 45);
        at("14: NOT in a row of three", Worlds.RICH).keepsFor("which #", "NOT", 1, 10, 20, 111, 112, 211, 22).plays("which 110 -> 2", "which 222 -> 10");
        at("14: the most", Worlds.FULLEST).plays("which 0 -> 0", "which 1 -> 1", "which 5000 -> 1080", "which 5555 -> 1295");
    }

    private void whichIsNone() {
        at("14: NONE: too many EVENTS", Worlds.RICH).keepsFor("which #", "NONE", 3, 9, 30, 90, 300, 900, 223, 232, 322);
        at("14: NONE: too many EVENTS ahead of NOT", TAKEN_LATE).keepsFor("which #", "NONE", 6, 9, 16, 46, 60, 56, 65);
        at("14: NONE: too many EVENTS of the most", Worlds.FULLEST).keepsFor("which #", "NONE", 6, 60, 600, 6000, 5556, 5565, 5655, 6555);
        at("14: NONE: more digits than PROCESSES", Worlds.RICH).keepsFor("which #", "NONE", 1000, 1222, 10000, "MAX");
        at("14: NONE: more digits than the most", Worlds.FULLEST).keepsFor("which #", "NONE", 10000, 15555, 1000000000, "MAX");
        at("14: NONE: more digits than one", "processes 1", "5* step 0 1").keepsFor("which #", "NONE", 6, 10, 15, 100).plays("which 5 -> 5");
        at("14: NONE: below 0", Worlds.RICH).keepsFor("which #", "NONE", -1, -10, -222, -1000, -1000000000, "MIN");
        at("14: a PROCESS without EVENTS", "processes 2", "step 1 1").plays("which 1 -> 1", "which 10 -> NONE", "which 11 -> NONE", "which 2 -> NONE");
    }

    private void level() {
        at("15: NONE", Worlds.RICH).keepsFor("level #", "NONE", -1, 11, "MIN", "MAX");
        at("15: from the first to the last", Worlds.RICH).keeps("level 0 -> 0", "level 1 -> 1", "level 9 -> 5", "level 10 -> 6");
        at("15: the most", Worlds.FULLEST).keeps("level 1295 -> 20", "level 1080 -> 5", "level 0 -> 0", "level 1296 -> NONE");
    }

    private void next() {
        at("16: NONE: i", Worlds.RICH).keepsFor("next # -1", "NONE", -1, 11, "MIN", "MAX").keepsFor("next # 0", "NONE", -1, 11, "MIN", "MAX");
        at("16: NONE: k below -1", Worlds.RICH).keepsFor("next 0 #", "NONE", -2, "MIN").plays("next 0 -1 -> 1");
        at("16: NONE: no such one", Worlds.RICH).keepsFor("next 0 #", "NONE", 1, 2, "MAX").plays("next 0 0 -> 1", "next 3 1 -> 4", "next 3 2 -> NONE");
        at("16: of the last none", Worlds.RICH).keeps("next 10 -1 -> 0", "next 10 0 -> NONE");
        at("16: by the PROCESS, from 0", Worlds.FULLEST)
                .plays("next 0 -1 -> 4", "next 0 0 -> 216", "next 0 1 -> 36", "next 0 2 -> 6", "next 0 3 -> 1", "next 0 4 -> NONE");
        at("16: a PROCESS has no more EVENTS", Worlds.FULLEST).plays("next 1080 -1 -> 3", "next 1080 0 -> 1116", "next 1294 -1 -> 1", "next 1294 0 -> 1295", "next 1295 -1 -> 0");
        at("16: those that HOLD", TAKEN_LATE).plays("next 4 -1 -> 1", "next 4 0 -> 5", "next 5 -1 -> 1", "next 5 0 -> 6", "next 0 -1 -> 1");
    }

    private void meetAndJoin() {
        for (String call : new String[] {"meet", "join"}) {
            at("17, 18: NONE: i of " + call, Worlds.RICH).keepsFor(call + " # 0", "NONE", -1, 11, "MIN", "MAX");
            at("17, 18: NONE: j of " + call, Worlds.RICH).keepsFor(call + " 0 #", "NONE", -1, 11, "MIN", "MAX");
            at("17, 18: both of " + call, Worlds.RICH).keeps(call + " 11 11 -> NONE", call + " 10 10 -> 10", call + " 0 0 -> 0");
        }
        at("17: of the first and the last", Worlds.FULLEST).keeps("meet 0 1295 -> 0", "meet 1295 0 -> 0", "meet 1295 1295 -> 1295");
        at("18: of the first and the last", Worlds.FULLEST).keeps("join 0 1295 -> 1295", "join 1295 0 -> 1295", "join 0 0 -> 0");
        at("17: of each PROCESS the less of both", Worlds.RICH).keeps("meet 5 6 -> 1", "meet 6 5 -> 1", "meet 5 9 -> 4");
        at("18: of each PROCESS the greater", Worlds.RICH).keeps("join 5 6 -> 10", "join 6 5 -> 10", "join 4 6 -> 9", "join 2 6 -> 7");
        at("17, 18: none of one is more than all of another", Worlds.FULLEST).keeps("meet 1080 215 -> 0", "join 1080 215 -> 1295");
    }

    private void under() {
        at("19: NONE", Worlds.RICH).keepsFor("under #", "NONE", -1, 11, "MIN", "MAX");
        at("19: whose sending is IN it", Worlds.RICH).keeps("under 0 -> 0", "under 1 -> 1", "under 3 -> 2", "under 4 -> 0", "under 5 -> 4", "under 10 -> 4");
        at("19: all eight", "4* send 0 1", "4* send 1 2").plays("under 24 -> 255", "under 0 -> 0", "under 4 -> 240", "under 20 -> 15", "under 23 -> 127");
        at("19: whose taking is not", Worlds.EIGHT_MESSAGES).plays("which 54 -> 29", "under 29 -> 251", "which 44 -> 24", "under 24 -> 255");
        at("19: by its own PROCESS", "send 0 1", "take 0 0 1").plays("under 1 -> 1", "under 2 -> 0");
    }

    private void value() {
        at("20: NONE: i", Worlds.RICH).keepsFor("value # 0", "NONE", -1, 11, "MIN", "MAX");
        at("20: NONE: p", Worlds.RICH).keepsFor("value 0 #", "NONE", -1, 3, "MIN", "MAX").keeps("value 11 3 -> NONE");
        at("20: at the START", Worlds.RICH).keeps("value 0 0 -> 107", "value 0 1 -> 100", "value 0 2 -> 91", "value 8 2 -> 91");
        at("20: behind the last EVENT IN it", Worlds.RICH).keeps("value 1 0 -> 105", "value 6 0 -> 101", "value 4 2 -> 109", "value 5 2 -> 104", "value 10 1 -> 102");
        at("20: -99 .. 99, and 100", "start 0 -99", "step 0 99", "start 1 99", "step 1 -99")
                .keeps("value 0 0 -> 1", "value 0 1 -> 199", "value 3 0 -> 199", "value 3 1 -> 1");
    }

    private void ways() {
        at("21: VOID: i", Worlds.RICH).keepsFor("ways #", "VOID", -2, 11, "MIN", "MAX");
        at("21: i -1: how many there are", Worlds.RICH).keeps("ways -1 -> 5", "ways 0 -> 5", "ways 10 -> 5", "ways 1 -> 5", "ways 6 -> 1", "ways 5 -> 1");
        at("21: without EVENTS one", "processes 4").keeps("ways -1 -> 1", "ways 0 -> 1", "ways 1 -> VOID");
        at("21: more than an int holds", Worlds.FULLEST)
                .keeps("ways -1 -> 11732745024", "ways 0 -> 11732745024", "ways 1295 -> 11732745024", "ways 1296 -> VOID", "ways 1080 -> 756756");
        at("21: of one PROCESS", "processes 1", "5* step 0 1").keeps("ways -1 -> 1", "ways 5 -> 1", "ways 6 -> VOID");
        at("21: behind a change", Worlds.RICH).plays("ways -1 -> 5", "back -> 5", "ways -1 -> 4", "ways 9 -> VOID", "step 0 1 -> 3", "ways -1 -> 10");
    }
}
