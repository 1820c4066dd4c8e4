/** The edges that the document names for marks, texts, lists, the image: terms, parts 2 and 3, promises 31 to 43. */
public final class EdgesOfTextsTest {
    private static final String FIGURES = "0123456789";
    /** Condition 0 is met by 21 cuts, 1 by 20, 2 by 19. */
    private static final String[] TWENTY = {
        "5* step 0 1", "5* step 1 2", "TAPE c0+c1<6", "read 0", "TAPE c0+c1<6&c0+c1>0", "read 1", "TAPE c0+c1<6&c0+c1>0&c0<5", "read 2"
    };

    private final Due due = new Due();

    public static void main(String[] args) {
        EdgesOfTextsTest test = new EdgesOfTextsTest();
        test.mark();
        test.line();
        test.feed();
        test.wipe();
        test.tell();
        test.tellFaults();
        test.tellEachByte();
        test.tellRefusals();
        test.list();
        test.lay();
        test.get();
        test.film();
        test.judge();
        test.judgePlaces();
        test.image();
        test.undo();
        test.whatUndoBrings();
        test.count();
        test.due.end();
    }

    private Edges at(String sentence, String... world) {
        return new Edges(due, sentence, world);
    }

    private static String[] withTape(String text) {
        return Edges.join(Worlds.RICH, "wipe", "TAPE " + text);
    }

    private void mark() {
        at("31: NONE: p", Worlds.RICH).keepsFor("mark # 1 1", "NONE", -1, 3, "MIN", "MAX");
        at("31: NONE: k", Worlds.RICH).keepsFor("mark 0 # 1", "NONE", 0, -1, 3, "MIN", "MAX");
        at("31: BAD: is", Worlds.RICH).keepsFor("mark 0 1 #", "BAD", -1, 2, "MIN", "MAX").keepsFor("mark 0 2 #", "BAD", -1, 2);
        at("31: NONE ahead of BAD", Worlds.RICH).keeps("mark 3 1 2 -> NONE", "mark 0 3 -1 -> NONE", "mark 0 0 2 -> NONE");
        at("31: what was", Worlds.RICH).plays("mark 0 1 1 -> 0", "mark 0 1 1 -> 1", "mark 0 1 0 -> 1", "mark 0 1 0 -> 0", "count 3 -> 2", "mark 0 2 0 -> 1", "count 3 -> 1");
        at("31: what is so already", Worlds.RICH).keeps("mark 0 2 1 -> 1", "mark 0 1 0 -> 0");
        at("31: the first and the last of five", Worlds.FULLEST).plays("mark 3 5 1 -> 0", "mark 3 1 1 -> 0", "mark 3 6 1 -> NONE", "mark 0 5 1 -> 0", "count 3 -> 3", "eventOf 3 4 3 -> 0");
    }

    private void line() {
        at("32: a START counts as one always", Worlds.FULLEST).keeps("line -> 0").plays("mark 3 5 1 -> 0", "line -> 5", "mark 0 1 1 -> 0", "line -> 221");
        at("32: all are marked", "step 0 1", "step 1 1", "mark 0 1 1", "mark 1 1 1").keeps("line -> 3");
        at("32: just the EVENTS up to one with a MARK", "5* step 0 1", "mark 0 4 1", "mark 0 2 1").keeps("line -> 4").plays("mark 0 4 0 -> 1", "line -> 2", "mark 0 2 0 -> 1", "line -> 0");
        at("32: it HOLDS", Worlds.RICH).keeps("line -> 7").plays("mark 0 2 0 -> 1", "line -> 0", "mark 0 1 1 -> 0", "line -> 2");
        at("32: one goes back, and so another", "send 0 1", "take 1 0 1", "send 1 1", "take 0 1 1", "mark 0 2 1", "mark 1 1 1")
                .keeps("line -> 0").plays("mark 1 2 1 -> 0", "line -> 4", "mark 0 2 0 -> 1", "line -> 0");
        at("32: without EVENTS", "processes 4").keeps("line -> 0");
        at("32: the most", "processes 4", "5* step 0 1", "5* step 1 1", "5* step 2 1", "5* step 3 1", "mark 0 5 1", "mark 1 5 1", "mark 2 5 1", "mark 3 5 1").keeps("line -> 1295");
        at("32: behind a change", Worlds.RICH).plays("line -> 7", "4* back -> 2", "line -> 0", "mark 0 1 1 -> 0", "line -> 2", "back -> 1", "line -> 1", "back -> 0", "line -> 0");
    }

    private void feed() {
        at("33: a byte (32 .. 126)", Worlds.RICH).keepsFor("feed #", "BAD", 31, 127, 0, -1, 255, 256 + 48, "MIN", "MAX").plays("feed 32 -> 9", "feed 126 -> 10");
        at("33: 60 bytes", "59* feed 49").plays("feed 49 -> 60", "feed 49 -> FULL", "count 5 -> 60");
        at("33: FULL", "TAPE 1+1+1+1+1+1+1+1+1+1+1+1+1+1+1+1+1+1+1+1+1+1+1+1+1+1+1+1+1=29").keeps("feed 49 -> FULL", "feed 32 -> FULL");
        at("33: BAD ahead of FULL", "60* feed 49").keeps("feed 31 -> BAD", "feed 127 -> BAD");
        at("33: FULL: not for long", "60* feed 49").plays("wipe -> 60", "feed 49 -> 1");
        at("33: comes behind THE TAPE's", Worlds.RICH).plays("feed 48 -> 9", "read 0 -> 9", "possible 0 -1 -> 5", "TAPE x0=", "feed 49 -> 4", "read 0 -> 4", "possible 0 -1 -> 5");
    }

    private void wipe() {
        at("34: an empty one").keeps("wipe -> 0");
        at("34: a full one", "60* feed 49").plays("wipe -> 60", "wipe -> 0", "count 5 -> 0", "TAPE 1=1", "read 0 -> 3");
        at("34: THE TAPE alone", Worlds.RICH).plays("wipe -> 8", "count 5 -> 0", "count 1 -> 6", "count 4 -> 2", "count 6 -> 2", "undo -> 5");
    }

    private void tell() {
        at("35: STATEMENTS, one", "TAPE s 0 1").plays("tell -> 1", "count 1 -> 1", "count 5 -> 0");
        at("35: as many as THE TAPE holds", "TAPE s 0 1;s 0 1;s 0 1;s 0 1;s 0 1;s 1 1;s 1 1;s 1 1;s 1 1;s 1 -9").plays("count 5 -> 60", "tell -> 10", "count 1 -> 10", "eventOf 1 5 1 -> 91");
        at("35: VALUE with 1 figure", "TAPE s 0 0;s 0 9;s 0 -9;s 1 -0").plays("tell -> 4", "eventOf 0 1 1 -> 100", "eventOf 0 2 1 -> 109", "eventOf 0 3 1 -> 91", "eventOf 1 1 1 -> 100");
        at("35: VALUE with 2 figures", "TAPE s 0 00;s 0 99;s 0 -99;e 1 -01").plays("tell -> 4", "eventOf 0 1 1 -> 100", "eventOf 0 2 1 -> 199", "eventOf 0 3 1 -> 1", "eventOf 1 1 1 -> 99");
        at("35: each sort", "processes 4", "TAPE e 3 5;t 2 0 -6;s 1 7").plays("tell -> 3", "eventOf 3 1 0 -> 1", "eventOf 2 1 0 -> 2", "eventOf 1 1 0 -> 0", "message 0 0 -> 3", "message 0 2 -> 2", "eventOf 2 1 1 -> 94");
        at("35: one of these can TAKE what one ahead of it SENDS", withTape("e 0 1;t 1 3 2")).plays("tell -> 2", "message 3 2 -> 1", "clock 1 3 0 -> 3");
        at("35: MESSAGE 7", Edges.join(Worlds.EIGHT_MESSAGES, "TAPE t 1 7 5")).plays("tell -> 1", "message 7 2 -> 1");
        at("35: THE TAPE is empty behind it", withTape("s 0 1")).plays("tell -> 1", "count 5 -> 0", "tell -> -100", "count 1 -> 7");
    }

    private void fault(String text, int place) {
        at("35: FAULT of " + text, withTape(text)).keepsButTape("tell -> " + (-100 - place));
    }

    private void tellFaults() {
        at("35: no bytes", Edges.join(Worlds.RICH, "wipe")).keepsButTape("tell -> -100");
        at("35: none of STATEMENTS is done behind a FAULT", withTape("s 0 1;e 1 2;t 2 2 ?")).keepsButTape("tell -> -118");
        fault("s", 1);
        fault("s ", 2);
        fault("s 0", 3);
        fault("s 0 ", 4);
        fault("s 0 -", 5);
        fault("s 0 1;", 6);
        fault("t 0 2", 5);
        fault("t 0 2 ", 6);
        fault("s 0 100", 6);
        fault("s 0 -100", 7);
        fault("s 0 --1", 5);
        fault("s  0 1", 2);
        fault("s 0  1", 4);
        fault(" s 0 1", 0);
        fault("s 0 1 ;s 0 1", 5);
        fault("s 0 1; s 0 1", 6);
        fault("s 0 1;;s 0 1", 6);
        fault(";", 0);
        fault("s 3 1", 2);
        fault("e 9 1", 2);
        fault("t 3 2 1", 2);
        fault("s 0 1;t 4 2 1", 8);
        fault("t 0 10 1", 5);
        fault("s 0 1;s 0 1;s 0 1;s 0 1;s 0 1;s 0 1;s 0 1;s 0 1;s 0 1;s 0 1;", 60);
        fault("s 0 1;s 0 1;s 0 1;s 0 1;s 0 1;s 0 1;s 0 1;s 0 1;s 0 1;s 0 1?", 59);
        for (int n = 1; n <= 4; n++) {
            at("35: of a PROCESS that is not there its figure, of " + n, "processes " + n, "TAPE s 0 1;s " + n + " 1").keepsButTape("tell -> -108");
            at("35: the last PROCESS, of " + n, "processes " + n, "TAPE s " + (n - 1) + " 1").plays("tell -> 1");
        }
    }

    private void tellEachByte() {
        due.under("35: FAULT: the first byte with which no text goes on");
        goesOnBy("", "set");
        for (String sort : new String[] {"s", "e"}) {
            goesOnBy(sort, " ");
            goesOnBy(sort + " ", "01");
            goesOnBy(sort + " 0", " ");
            goesOnBy(sort + " 1 ", "-" + FIGURES);
            goesOnBy(sort + " 0 -", FIGURES);
            goesOnBy(sort + " 0 1", FIGURES + ";");
            goesOnBy(sort + " 0 12", ";");
            goesOnBy(sort + " 0 -1", FIGURES + ";");
            goesOnBy(sort + " 0 -12", ";");
            goesOnBy(sort + " 0 1;", "set");
        }
        goesOnBy("e 0 1;t", " ");
        goesOnBy("e 0 1;t ", "01");
        goesOnBy("e 0 1;t 0", " ");
        goesOnBy("e 0 1;t 0 ", FIGURES);
        goesOnBy("e 0 1;t 0 0", " ");
        goesOnBy("e 0 1;t 0 0 ", "-" + FIGURES);
        goesOnBy("e 0 1;t 0 0 -", FIGURES);
        goesOnBy("e 0 1;t 0 0 1", FIGURES + ";");
        goesOnBy("e 0 1;t 0 0 12", ";");
        goesOnBy("e 0 1;t 0 0 12;", "set");
    }

    private void goesOnBy(String text, String bytes) {
        for (int letter = 32; letter <= 126; letter++) {
            String longer = text + (char) letter;
            int answer = Texts.tell(new RunCuts(), longer);
            if (bytes.indexOf(letter) < 0) {
                due.is("tell " + longer, answer, -100 - text.length());
            } else {
                due.isTrue("tell " + longer + " goes on", answer > 0 || answer == -100 - longer.length());
            }
        }
    }

    private void tellRefusals() {
        at("35: -300: the first can not be: no such MESSAGE", withTape("t 0 3 1")).keepsButTape("tell -> -300");
        at("35: -300: the first can not be: MESSAGE 9", withTape("t 0 9 1;s 0 1")).keepsButTape("tell -> -300");
        at("35: -300: the first can not be: it is taken", withTape("t 0 0 1;s 0 1")).keepsButTape("tell -> -300");
        at("35: -300: the first can not be: 5 EVENTS", Edges.join(Worlds.FULLEST, "TAPE s 3 1;s 2 1")).keepsButTape("tell -> -300");
        at("35: -300: the first can not be: 8 MESSAGES", Edges.join(Worlds.EIGHT_MESSAGES, "TAPE e 1 1;s 1 1")).keepsButTape("tell -> -300");
        at("35: less how many are ahead of it, which stay done", withTape("s 0 8;t 1 0 1;s 2 1"))
                .plays("tell -> -301", "count 1 -> 7", "eventOf 0 3 1 -> 108", "eventOf 1 3 0 -> NONE", "eventOf 2 3 0 -> NONE", "count 5 -> 0");
        at("35: the last can not be", "TAPE s 0 1;s 0 1;s 0 1;s 0 1;s 0 1;s 1 1;s 1 1;s 1 1;s 1 1;s 0 -1")
                .plays("tell -> -309", "count 1 -> 9", "count 5 -> 0", "eventOf 0 5 1 -> 101", "step 1 1 -> 5");
        at("35: nine MESSAGES", "TAPE e 0 1;e 0 1;e 0 1;e 0 1;e 1 1;e 1 1;e 1 1;e 1 1;e 1 1").plays("tell -> -308", "count 2 -> 8", "count 1 -> 8");
        at("35: a MESSAGE comes too late", "TAPE t 1 0 1;e 0 1").keepsButTape("tell -> -300");
        at("35: a MESSAGE is taken twice", "TAPE e 0 1;t 1 0 1;t 0 0 1").plays("tell -> -302", "count 1 -> 2", "message 0 2 -> 1");
        at("35: a FAULT ahead of what can not be", withTape("t 0 9 1;s 0")).keepsButTape("tell -> -111");
        at("35: conditions see what stays done", "TAPE x0=8", "read 0", "TAPE s 0 8;t 1 0 1").plays("possible 0 -1 -> 0", "tell -> -301", "possible 0 -1 -> 1", "cuts -> 2");
    }

    private void list() {
        at("36: NONE: list", Worlds.RICH).keepsFor("list # 0", "NONE", -1, 3, "MIN", "MAX");
        at("36: BAD: n above 20", Worlds.RICH).keepsFor("list 0 #", "BAD", 21, "MAX").keepsFor("list 1 #", "BAD", 21, "MAX");
        at("36: BELOW: n below -1", Worlds.RICH).keepsFor("list 0 #", "BELOW", -2, "MIN").keepsFor("list 1 #", "BELOW", -2, "MIN");
        at("36: NONE ahead of BAD and BELOW", Worlds.RICH).keeps("list 3 21 -> NONE", "list -1 -2 -> NONE");
        at("36: 20 longs", Worlds.RICH).plays("list 1 20 -> 1", "get 1 0 -> 0", "get 1 19 -> 0", "get 1 20 -> VOID", "lay 1 19 1 -> 1", "lay 1 20 1 -> PLACE", "count 6 -> 3");
        at("36: 0 longs", Worlds.RICH).plays("list 0 0 -> 1", "get 0 0 -> VOID", "lay 0 0 1 -> PLACE", "count 6 -> 2", "judge 0 0 -> 100");
        at("36: all 0", Worlds.RICH).plays("list 0 3 -> 1", "get 0 0 -> 0", "get 0 1 -> 0", "get 0 2 -> 0", "get 0 3 -> VOID");
        at("36: all 0 behind one that was greater", Worlds.RICH).plays("list 0 1 -> 1", "list 0 4 -> 1", "get 0 1 -> 0", "get 0 2 -> 0", "get 0 3 -> 0");
        at("36: missing (n -1)", Worlds.RICH).plays("list 0 -1 -> 1", "count 6 -> 1", "get 0 0 -> VOID", "lay 0 0 1 -> MISSING", "judge 0 0 -> MISSING", "list 0 1 -> 1", "get 0 0 -> 0");
        at("36: missing already", Worlds.RICH).keeps("list 1 -1 -> 1");
        at("36: LISTS 0 .. 2, each its own").plays("list 0 1 -> 1", "list 1 2 -> 1", "list 2 3 -> 1", "count 6 -> 3", "get 0 1 -> VOID", "get 1 1 -> 0", "get 2 2 -> 0", "lay 1 0 5 -> 1", "get 0 0 -> 0", "get 2 0 -> 0");
    }

    private void lay() {
        at("37: NONE", Worlds.RICH).keepsFor("lay # 0 1", "NONE", -1, 3, "MIN", "MAX");
        at("37: MISSING", Worlds.RICH).keepsFor("lay 1 # 1", "MISSING", 0, -1, 20, "MIN", "MAX");
        at("37: PLACE", Worlds.RICH).keepsFor("lay 0 # 1", "PLACE", -1, 3, 20, "MIN", "MAX").keeps("lay 2 0 1 -> PLACE", "lay 2 -1 1 -> PLACE");
        at("37: NONE ahead of MISSING and PLACE", Worlds.RICH).keeps("lay 3 -1 1 -> NONE", "lay -1 99 1 -> NONE");
        at("37: the first and the last place", Worlds.RICH).plays("lay 0 0 8 -> 1", "lay 0 2 9 -> 1", "get 0 0 -> 8", "get 0 1 -> 3", "get 0 2 -> 9");
        at("37: any long", Worlds.RICH).plays("lay 0 0 LEAST -> 1", "lay 0 1 MOST -> 1", "lay 0 2 4294967296 -> 1", "get 0 0 -> LEAST", "get 0 1 -> MOST", "get 0 2 -> 4294967296");
    }

    private void get() {
        at("38: VOID: no such LIST", Worlds.RICH).keepsFor("get # 0", "VOID", -1, 3, "MIN", "MAX");
        at("38: VOID: missing", Worlds.RICH).keepsFor("get 1 #", "VOID", 0, -1, "MIN", "MAX");
        at("38: VOID: no such place", Worlds.RICH).keepsFor("get 0 #", "VOID", -1, 3, "MIN", "MAX").keeps("get 2 0 -> VOID");
        at("38: the first and the last place", Worlds.RICH).keeps("get 0 0 -> 1", "get 0 2 -> -5");
    }

    private void film() {
        at("39: NONE: list", Worlds.RICH).keepsFor("film # 0", "NONE", -1, 3, "MIN", "MAX");
        at("39: NONE: c", Worlds.RICH).keepsFor("film 0 #", "NONE", -1, 3, "MIN", "MAX").keepsFor("film 1 #", "NONE", -1, 3);
        at("39: STATE", Worlds.RICH).keeps("film 0 1 -> STATE", "film 1 1 -> STATE", "film 2 1 -> STATE");
        at("39: NONE ahead of STATE", Worlds.RICH).keeps("film 3 1 -> NONE", "film -1 1 -> NONE");
        at("39: the first 20 of 21", TWENTY).plays("possible 0 -1 -> 21", "film 0 0 -> 20", "get 0 0 -> 0", "get 0 18 -> 24", "get 0 19 -> 25", "get 0 20 -> VOID");
        at("39: 20 of 20", TWENTY).plays("possible 1 -1 -> 20", "film 0 1 -> 20", "get 0 0 -> 1", "get 0 19 -> 30", "get 0 20 -> VOID");
        at("39: 19 of 19", TWENTY).plays("possible 2 -1 -> 19", "film 0 2 -> 19", "get 0 18 -> 25", "get 0 19 -> VOID");
        at("39: none", "TAPE 1=2", "read 0").plays("film 1 0 -> 0", "count 6 -> 1", "get 1 0 -> VOID", "lay 1 0 1 -> PLACE");
        at("39: nothing of the old LIST stays", Edges.join(TWENTY, "film 0 0", "film 0 2")).plays("get 0 19 -> VOID", "lay 0 19 1 -> PLACE", "list 0 20 -> 1", "get 0 19 -> 0", "get 0 3 -> 0");
        at("39: that LIST alone", Worlds.RICH).plays("film 1 0 -> 6", "get 0 0 -> 1", "get 0 2 -> -5", "get 1 5 -> 10", "get 2 0 -> VOID", "count 6 -> 3");
    }

    private void judge() {
        at("40: NONE: list", Worlds.RICH).keepsFor("judge # 0", "NONE", -1, 3, "MIN", "MAX");
        at("40: NONE: c", Worlds.RICH).keepsFor("judge 0 #", "NONE", -1, 3, "MIN", "MAX");
        at("40: MISSING", Worlds.RICH).keeps("judge 1 0 -> MISSING", "judge 1 2 -> MISSING");
        at("40: STATE: that CONDITION is none", Worlds.RICH).keeps("judge 0 1 -> STATE", "judge 2 1 -> STATE");
        at("40: NONE ahead of MISSING and STATE", Worlds.RICH).keeps("judge 1 3 -> NONE", "judge 3 1 -> NONE", "judge 1 -1 -> NONE");
        at("40: MISSING ahead of STATE", Worlds.RICH).keeps("judge 1 1 -> MISSING");
    }

    private void judgePlaces() {
        at("40: the first place that is otherwise", Worlds.RICH).keeps("judge 0 0 -> 2", "judge 0 2 -> 1").plays("lay 0 0 2 -> 1", "judge 0 0 -> 0");
        at("40: 100 and its size, if all are so", Worlds.RICH).keeps("judge 2 0 -> 100", "judge 2 2 -> 100").plays("lay 0 2 5 -> 1", "judge 0 0 -> 103");
        at("40: that is beyond them, too", Edges.join(Worlds.RICH, "film 1 2", "list 0 5", "lay 0 0 1", "lay 0 1 2", "lay 0 2 6", "lay 0 3 7"))
                .plays("judge 1 2 -> 104", "judge 0 2 -> 4", "lay 0 4 8 -> 1", "judge 0 2 -> 4", "lay 0 4 7 -> 1", "judge 0 2 -> 4", "list 0 4 -> 1", "judge 0 2 -> 0");
        at("40: beyond them, where there were some", "processes 1", "3* step 0 1", "TAPE 1=1", "read 0", "film 0 0")
                .plays("judge 0 0 -> 104", "back -> 2", "judge 0 0 -> 3", "back -> 1", "judge 0 0 -> 2");
        at("40: all are beyond them", "TAPE 1=2", "read 0", "list 0 20").keeps("judge 0 0 -> 0").plays("list 0 0 -> 1", "judge 0 0 -> 100");
        at("40: rising", Edges.join(Worlds.RICH, "film 1 0", "lay 1 3 8", "lay 1 4 6")).keeps("judge 1 0 -> 3");
        at("40: one left out", Edges.join(Worlds.RICH, "list 1 2", "lay 1 0 1", "lay 1 1 5")).keeps("judge 1 0 -> 1");
        at("40: one twice", Edges.join(Worlds.RICH, "list 1 2", "lay 1 0 1", "lay 1 1 1")).keeps("judge 1 0 -> 1");
        at("40: the last of 20 is otherwise", Edges.join(TWENTY, "film 0 0", "lay 0 19 26")).keeps("judge 0 0 -> 19").plays("film 0 0 -> 20", "judge 0 0 -> 120");
        at("40: the last of 20 is beyond them", Edges.join(TWENTY, "film 0 1")).plays("judge 0 1 -> 120", "judge 0 2 -> 19", "judge 0 0 -> 0");
        at("40: six of them, seven places", "processes 1", "5* step 0 1", "TAPE 1=1", "read 0", "film 0 0", "list 1 7", "lay 1 1 1", "lay 1 2 2", "lay 1 3 3", "lay 1 4 4", "lay 1 5 5")
                .plays("judge 0 0 -> 106", "judge 1 0 -> 6", "lay 1 6 6 -> 1", "judge 1 0 -> 6", "lay 1 5 4 -> 1", "judge 1 0 -> 5");
        at("40: no wrap-around", Edges.join(Worlds.RICH, "list 1 1")).plays("lay 1 0 4294967297 -> 1", "judge 1 0 -> 0", "lay 1 0 LEAST -> 1", "judge 1 0 -> 0", "lay 1 0 1 -> 1", "judge 1 0 -> 101");
        at("40: behind a change", Edges.join(Worlds.RICH, "film 1 0")).plays("judge 1 0 -> 106", "back -> 5", "judge 1 0 -> 3", "film 1 0 -> 4", "judge 1 0 -> 104");
    }

    private void image() {
        at("41: how many EVENTS", Worlds.RICH).plays("image -> 6", "back -> 5", "image -> 5", "processes 3 -> 3", "image -> 0", "undo -> 0");
        at("41: without EVENTS").plays("image -> 0", "step 0 1 -> 1", "undo -> 0", "count 1 -> 0", "undo -> 0");
        at("41: of 20", Worlds.FULLEST).plays("image -> 20", "processes 1 -> 4", "undo -> 20", "cuts -> 1296", "step 3 1 -> FULL", "back -> 19");
        at("41: the one taken last", Worlds.RICH).plays("image -> 6", "2* back -> 4", "undo -> 6", "processes 1 -> 3", "undo -> 6");
        at("41: changes nothing but THE IMAGE", "step 0 1", "TAPE x0=1", "read 0", "TAPE m=0", "list 1 2")
                .plays("image -> 1", "count 1 -> 1", "count 5 -> 3", "count 6 -> 1", "count 4 -> 1", "possible 0 -1 -> 1", "undo -> 1", "count 5 -> 3", "count 6 -> 1");
    }

    private void undo() {
        at("42: STATE: there is none", "send 0 1", "mark 0 1 1", "TAPE x0=1", "read 0", "TAPE m=0", "list 1 2").keeps("undo -> STATE");
        at("42: STATE behind processes(), where none was taken", "processes 3").keeps("undo -> STATE");
        at("42: as often as asked for", Worlds.RICH).plays("undo -> 5", "undo -> 5", "step 0 1 -> 3", "undo -> 5", "eventOf 0 3 0 -> NONE");
        at("42: what comes behind does not change THE IMAGE", Worlds.RICH)
                .plays("undo -> 5", "start 0 1 -> 107", "mark 1 1 0 -> 1", "take 0 1 1 -> STATE", "forget 0 -> 1", "back -> 4", "back -> 3", "send 2 8 -> 2", "undo -> 5",
                        "value 0 0 -> 107", "eventOf 1 1 3 -> 1", "possible 0 -1 -> 4", "eventOf 2 1 0 -> 2", "message 2 0 -> NONE", "message 1 2 -> 2");
    }

    private void whatUndoBrings() {
        String[] other = Edges.join(Worlds.RICH, "processes 4", "start 0 1", "start 3 2", "send 3 1", "step 0 9", "mark 0 1 1", "wipe", "TAPE x3=1", "read 1", "list 0 1", "TAPE m=0");
        at("42: PROCESSES as of THE IMAGE", other).plays("undo -> 5", "count 0 -> 3", "step 3 1 -> NONE", "cut 1 -> 100");
        at("42: EVENTS as of THE IMAGE", other).plays("undo -> 5", "count 1 -> 5", "eventOf 0 1 0 -> 1", "eventOf 0 2 1 -> 101", "eventOf 2 2 0 -> NONE", "clock 2 1 0 -> 1", "count 2 -> 2", "message 1 3 -> 1");
        at("42: STARTS as of THE IMAGE", other).plays("undo -> 5", "value 0 0 -> 107", "value 0 1 -> 100", "value 0 2 -> 91");
        at("42: MARKS as of THE IMAGE", other).plays("undo -> 5", "count 3 -> 2", "eventOf 0 1 3 -> 0", "eventOf 0 2 3 -> 1", "eventOf 1 1 3 -> 1", "line -> 6");
        at("42: CONDITIONS as of THE IMAGE", other).plays("undo -> 5", "count 4 -> 2", "possible 0 -1 -> 4", "sure 1 -> STATE", "possible 2 -1 -> 4");
        at("42: not LISTS", other).plays("undo -> 5", "count 6 -> 2", "get 0 0 -> 0", "get 0 1 -> VOID");
        at("42: not THE TAPE", other).plays("undo -> 5", "count 5 -> 3", "read 1 -> 3", "possible 1 -1 -> 5");
    }

    private void count() {
        at("43: NONE", Worlds.RICH).keepsFor("count #", "NONE", -1, 7, "MIN", "MAX");
        at("43: of something of all", Worlds.RICH).keeps("count 0 -> 3", "count 1 -> 6", "count 2 -> 3", "count 3 -> 2", "count 4 -> 2", "count 5 -> 8", "count 6 -> 2");
        at("43: the most", "processes 4", "2* send 0 1", "2* send 1 1", "2* send 2 1", "2* send 3 1", "3* step 0 1", "3* step 1 1", "3* step 2 1", "3* step 3 1",
                "mark 0 1 1", "mark 3 5 1", "TAPE 1=1", "read 0", "TAPE 1=1", "read 1", "TAPE 1=1", "read 2", "list 0 0", "list 1 20", "list 2 1", "60* feed 49")
                .keeps("count 0 -> 4", "count 1 -> 20", "count 2 -> 8", "count 3 -> 2", "count 4 -> 3", "count 5 -> 60", "count 6 -> 3");
        at("43: taken MESSAGES count, too", Worlds.EIGHT_MESSAGES).keeps("count 2 -> 8");
        at("43: a START is no MARK that is counted").keeps("count 3 -> 0");
    }
}
