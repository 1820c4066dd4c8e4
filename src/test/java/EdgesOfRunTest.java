/** The edges that the document names for the run: its terms, part 1, and promises 1 to 11. */
public final class EdgesOfRunTest {
    private final Due due = new Due();

    public static void main(String[] args) {
        EdgesOfRunTest test = new EdgesOfRunTest();
        test.aNewObject();
        test.processes();
        test.whatProcessesClears();
        test.start();
        test.step();
        test.send();
        test.take();
        test.takeInOrder();
        test.back();
        test.backOfMarksAndMessages();
        test.eventOf();
        test.clock();
        test.ahead();
        test.message();
        test.due.end();
    }

    private Edges at(String sentence, String... world) {
        return new Edges(due, sentence, world);
    }

    private void aNewObject() {
        at("1: two PROCESSES")
                .keeps("count 0 -> 2", "value 0 0 -> 100", "value 0 1 -> 100", "value 0 2 -> NONE", "step 2 0 -> NONE")
                .plays("step 0 0 -> 1", "step 1 0 -> 1");
        at("1: no EVENTS")
                .keeps("count 1 -> 0", "eventOf 0 1 0 -> NONE", "eventOf 1 1 0 -> NONE", "clock 0 1 0 -> NONE", "ahead 0 1 0 1 -> NONE",
                        "mark 0 1 1 -> NONE", "back -> STATE", "count 2 -> 0", "message 0 0 -> NONE", "take 0 0 0 -> NONE", "count 3 -> 0");
        at("1: the cuts of no EVENTS")
                .keeps("cuts -> 1", "cut 0 -> 0", "cut 1 -> NONE", "level 0 -> 0", "next 0 -1 -> 0", "next 0 0 -> NONE",
                        "meet 0 0 -> 0", "join 0 0 -> 0", "under 0 -> 0", "ways -1 -> 1", "ways 0 -> 1", "line -> 0", "which 0 -> 0",
                        "which 1 -> NONE", "which 10 -> NONE");
        at("terms 2: CONDITIONS 0 .. 2: none at first")
                .keeps("count 4 -> 0").keepsFor("sure #", "STATE", 0, 1, 2).keepsFor("sure #", "NONE", -1, 3);
        at("terms 3: LISTS 0 .. 2 are missing (at first)")
                .keeps("count 6 -> 0").keepsFor("lay # 0 0", "MISSING", 0, 1, 2).keepsFor("lay # 0 0", "NONE", -1, 3);
        at("terms 3: THE TAPE holds 0 bytes at first").keeps("count 5 -> 0", "wipe -> 0", "read 0 -> -100", "tell -> -100");
        at("42: STATE: there is no IMAGE at first").keeps("undo -> STATE");
        at("an object is used for 512 calls").plays("511* wipe -> 0", "step 0 1 -> 1");
    }

    private void processes() {
        at("2: n 1 .. 4", Worlds.RICH).keepsFor("processes #", "BAD", 0, 5, -1, "MIN", "MAX");
        at("2: how many there were")
                .plays("processes 1 -> 2", "processes 4 -> 1", "processes 4 -> 4", "processes 5 -> BAD", "processes 2 -> 4",
                        "processes 3 -> 2", "processes 1 -> 3");
        for (int n = 1; n <= 4; n++) {
            String last = String.valueOf(n - 1);
            at("2: PROCESSES 0 .. n less 1, n " + n, "processes " + n)
                    .keeps("count 0 -> " + n, "step " + n + " 1 -> NONE", "value 0 " + n + " -> NONE", "value 0 " + last + " -> 100")
                    .plays("step " + last + " 1 -> 1", "cut 1 -> 1", "start " + last + " 5 -> 100", "value 0 " + last + " -> 105");
        }
    }

    private void whatProcessesClears() {
        String[] told = {
            "processes 4", "start 0 1", "start 1 2", "start 2 3", "start 3 4", "2* send 0 1", "take 3 0 5", "mark 0 1 1", "mark 3 1 1",
            "TAPE 1=1", "read 0", "TAPE 1=1", "read 1", "TAPE 1=1", "read 2", "list 1 2", "lay 1 1 6", "TAPE m=0", "image", "step 1 1"
        };
        at("terms 3: by processes() there are no EVENTS", told)
                .plays("processes 4 -> 4", "count 1 -> 0", "eventOf 0 1 0 -> NONE", "eventOf 3 1 0 -> NONE", "cuts -> 1", "back -> STATE",
                        "5* step 0 1 -> 5", "5* step 3 1 -> 5");
        at("terms 3: by processes() there are no MESSAGES", told)
                .plays("processes 4 -> 4", "count 2 -> 0", "message 0 0 -> NONE", "take 1 1 0 -> NONE", "send 2 0 -> 0", "message 0 2 -> NOT",
                        "take 1 0 0 -> 1", "4* send 1 0 -> 4", "3* send 2 0 -> 7", "send 2 0 -> FULL");
        at("terms 3: by processes() there are no MARKS", told)
                .plays("processes 4 -> 4", "count 3 -> 0", "step 0 1 -> 1", "step 3 1 -> 1", "eventOf 0 1 3 -> 0", "eventOf 3 1 3 -> 0", "line -> 0");
        at("terms 3: by processes() there are no CONDITIONS", told)
                .plays("processes 4 -> 4", "count 4 -> 0", "sure 0 -> STATE", "sure 1 -> STATE", "sure 2 -> STATE", "forget 0 -> STATE");
        at("terms 3: by processes() all STARTS are 0", told)
                .plays("processes 4 -> 4", "value 0 0 -> 100", "value 0 1 -> 100", "value 0 2 -> 100", "value 0 3 -> 100", "start 3 9 -> 100",
                        "processes 1 -> 4", "processes 4 -> 1", "value 0 3 -> 100");
        at("terms 3: by processes() LISTS, THE TAPE, THE IMAGE stay", told)
                .plays("processes 1 -> 4", "count 6 -> 1", "get 1 1 -> 6", "count 5 -> 3", "read 0 -> 3", "undo -> 3", "count 0 -> 4");
        at("2: BAD clears nothing", told).keeps("processes 0 -> BAD", "processes 5 -> BAD");
    }

    private void start() {
        at("3: VALUE -99 .. 99", Worlds.RICH)
                .plays("start 0 -99 -> 107", "start 0 99 -> 1", "start 0 0 -> 199", "start 0 0 -> 100", "value 0 0 -> 100")
                .keepsFor("start 0 #", "BAD", -100, 100, "MIN", "MAX");
        at("3: NONE", Worlds.RICH).keepsFor("start # 0", "NONE", -1, 3, "MIN", "MAX").plays("start 2 1 -> 91", "start 1 1 -> 100");
        at("3: NONE ahead of BAD", Worlds.RICH).keeps("start 3 100 -> NONE", "start -1 -100 -> NONE");
        at("3: conditions that were asked ahead of it see it", "TAPE x1=5", "read 2")
                .plays("possible 2 -1 -> 0", "sure 2 -> 0", "start 1 5 -> 100", "possible 2 -1 -> 1", "sure 2 -> 1", "start 1 100 -> BAD", "possible 2 -1 -> 1");
        at("3: at the START alone", Worlds.RICH)
                .plays("start 1 42 -> 100", "value 0 1 -> 142", "value 1 1 -> 142", "value 2 1 -> 93", "eventOf 1 1 1 -> 93");
    }

    private void step() {
        at("4: EVENTS numbered from 1 on, 5 at most", Worlds.RICH)
                .plays("step 0 1 -> 3", "step 0 1 -> 4", "step 0 1 -> 5", "step 0 1 -> FULL", "step 1 1 -> 3", "count 1 -> 10");
        at("4: FULL: 5 EVENTS", Edges.join(Worlds.RICH, "3* step 1 8")).keeps("step 1 0 -> FULL").plays("step 0 0 -> 3", "step 2 0 -> 3");
        at("4: FULL: not for long", "5* step 0 1").plays("step 0 1 -> FULL", "back -> 4", "step 0 2 -> 5", "step 0 2 -> FULL");
        at("4: 20 EVENTS in all", Worlds.FULLEST).keepsFor("step # 0", "FULL", 0, 1, 2, 3).plays("count 1 -> 20");
        at("4: VALUE -99 .. 99", Worlds.RICH)
                .plays("step 0 -99 -> 3", "step 0 99 -> 4", "eventOf 0 3 1 -> 1", "eventOf 0 4 1 -> 199")
                .keepsFor("step 0 #", "BAD", -100, 100, "MIN", "MAX");
        at("4: NONE", Worlds.RICH).keepsFor("step # 0", "NONE", -1, 3, "MIN", "MAX").plays("step 2 0 -> 3");
        at("4: NONE ahead of BAD, BAD ahead of FULL", "5* step 1 1").keeps("step 2 100 -> NONE", "step 1 100 -> BAD", "step 1 -100 -> BAD");
    }

    private void send() {
        at("5: MESSAGES 0 .. as they come", Worlds.RICH).plays("send 1 1 -> 3", "send 0 1 -> 4", "send 2 1 -> 5", "eventOf 1 3 2 -> 3", "count 2 -> 6");
        at("5: FULL: 5 EVENTS", Edges.join(Worlds.RICH, "3* step 1 8")).keeps("send 1 0 -> FULL").plays("send 0 0 -> 3");
        at("5: 8 MESSAGES at most", "4* send 0 1").plays("4* send 1 1 -> 7", "send 1 1 -> FULL", "send 0 1 -> FULL", "count 2 -> 8");
        at("5: FULL: 8 MESSAGES, taken ones, too", Worlds.EIGHT_MESSAGES).keeps("send 1 0 -> FULL").plays("step 1 0 -> 5");
        at("5: FULL: 5 EVENTS and 8 MESSAGES", Worlds.EIGHT_MESSAGES).keeps("send 0 0 -> FULL");
        at("5: FULL: not for long", "4* send 0 1", "4* send 1 1")
                .plays("send 1 1 -> FULL", "back -> 7", "send 0 1 -> 7", "send 1 1 -> FULL", "step 1 1 -> 4");
        at("5: VALUE -99 .. 99", Worlds.RICH)
                .plays("send 0 -99 -> 3", "send 0 99 -> 4", "eventOf 0 3 1 -> 1", "eventOf 0 4 1 -> 199")
                .keepsFor("send 0 #", "BAD", -100, 100, "MIN", "MAX");
        at("5: NONE", Worlds.RICH).keepsFor("send # 0", "NONE", -1, 3, "MIN", "MAX").plays("send 2 0 -> 3");
        at("5: NONE ahead of BAD, BAD ahead of FULL", Worlds.EIGHT_MESSAGES)
                .keeps("send 2 100 -> NONE", "send 2 0 -> NONE", "send 0 100 -> BAD", "send 1 -100 -> BAD");
    }

    private void take() {
        at("6: NONE: p", Worlds.RICH).keepsFor("take # 2 0", "NONE", -1, 3, "MIN", "MAX").plays("take 0 2 0 -> 3");
        at("6: NONE: m", Worlds.RICH).keepsFor("take 0 # 0", "NONE", -1, 3, "MIN", "MAX");
        at("6: the eighth MESSAGE", Worlds.EIGHT_MESSAGES).keeps("take 1 8 0 -> NONE").plays("take 1 7 0 -> 5", "message 7 3 -> 5");
        at("6: VALUE -99 .. 99", Edges.join(Worlds.RICH, "send 1 0"))
                .plays("take 0 2 -99 -> 3", "take 0 3 99 -> 4", "eventOf 0 3 1 -> 1", "eventOf 0 4 1 -> 199")
                .keepsFor("take 0 2 #", "BAD", -100, 100, "MIN", "MAX");
        at("6: STATE: it is taken", Worlds.RICH).keeps("take 0 0 1 -> STATE", "take 1 0 1 -> STATE", "take 2 1 1 -> STATE");
        at("6: STATE: just behind it", Worlds.RICH).plays("take 0 2 1 -> 3", "take 0 2 1 -> STATE", "take 1 2 1 -> STATE", "back -> 6", "take 1 2 1 -> 3");
        at("6: by its own PROCESS, too", Worlds.RICH).plays("take 2 2 1 -> 3", "message 2 2 -> 2", "message 2 3 -> 3", "clock 2 3 2 -> 3", "take 0 2 1 -> STATE");
        at("6: FULL: 5 EVENTS", Edges.join(Worlds.RICH, "3* step 1 8"))
                .keeps("take 1 2 0 -> FULL")
                .plays("take 1 2 0 -> FULL", "message 2 2 -> NOT", "message 2 3 -> NOT", "take 0 2 0 -> 3");
        at("6: 5 EVENTS, the fifth TAKES", Edges.join(Worlds.RICH, "2* step 1 8")).plays("take 1 2 0 -> 5", "eventOf 1 5 0 -> 2", "step 1 0 -> FULL");
    }

    private void takeInOrder() {
        String[] world = Edges.join(Worlds.RICH, "3* step 1 8");
        at("6: NONE ahead of BAD", world).keeps("take 3 2 100 -> NONE", "take 0 3 100 -> NONE", "take 3 3 100 -> NONE");
        at("6: NONE ahead of STATE and FULL", world).keeps("take 3 0 1 -> NONE", "take 1 3 1 -> NONE", "take 1 -1 1 -> NONE");
        at("6: BAD ahead of STATE and FULL", world).keeps("take 0 0 100 -> BAD", "take 1 2 100 -> BAD", "take 1 0 -100 -> BAD");
        at("6: STATE ahead of FULL", world).keeps("take 1 0 1 -> STATE", "take 1 1 1 -> STATE");
    }

    private void back() {
        at("7: STATE: there is none").keeps("back -> STATE");
        at("7: STATE: there is none any more", Worlds.RICH)
                .plays("back -> 5", "back -> 4", "back -> 3", "back -> 2", "back -> 1", "back -> 0", "back -> STATE", "back -> STATE", "count 1 -> 0",
                        "count 2 -> 0", "count 3 -> 0", "cuts -> 1", "count 0 -> 3", "count 4 -> 2", "value 0 0 -> 107", "undo -> 5");
        at("7: STATE behind processes()", Edges.join(Worlds.RICH, "processes 3")).keeps("back -> STATE");
        at("7: the EVENT told last, of whichever PROCESS", Edges.join(Worlds.RICH, "step 0 1", "step 2 1", "step 1 1"))
                .plays("back -> 8", "eventOf 1 3 0 -> NONE", "eventOf 2 3 0 -> 0", "back -> 7", "eventOf 2 3 0 -> NONE", "eventOf 0 3 0 -> 0",
                        "back -> 6", "eventOf 0 3 0 -> NONE", "eventOf 0 2 0 -> 0");
        at("7: of 20", Worlds.FULLEST).plays("back -> 19", "eventOf 3 5 0 -> NONE", "eventOf 3 4 0 -> 0", "step 3 1 -> 5", "19* back -> 1", "back -> 0", "back -> STATE");
    }

    private void backOfMarksAndMessages() {
        at("7: nor its MESSAGE", Worlds.EIGHT_MESSAGES)
                .plays("back -> 8", "back -> 7", "count 2 -> 7", "message 7 0 -> NONE", "take 1 7 0 -> NONE", "send 1 6 -> 7", "message 7 1 -> 4", "message 7 2 -> NOT");
        at("7: its MESSAGE by another PROCESS", "send 0 1").plays("back -> 0", "step 1 1 -> 1", "send 1 1 -> 0", "message 0 0 -> 1", "message 0 1 -> 2");
        at("7: nor its MARK", "step 0 1", "mark 0 1 1", "step 1 1", "mark 1 1 1")
                .plays("back -> 1", "count 3 -> 1", "step 1 1 -> 1", "eventOf 1 1 3 -> 0", "count 3 -> 1", "back -> 1", "back -> 0", "send 0 1 -> 0",
                        "eventOf 0 1 3 -> 0", "count 3 -> 0");
        at("7: a MESSAGE it took is not taken", Edges.join(Worlds.RICH, "take 1 2 5"))
                .plays("message 2 2 -> 1", "message 2 3 -> 3", "back -> 6", "message 2 2 -> NOT", "message 2 3 -> NOT", "under 10 -> 4", "take 0 2 1 -> 3", "message 2 2 -> 0");
        at("7: a MESSAGE it took is there", Edges.join(Worlds.RICH, "take 2 2 5")).plays("back -> 6", "count 2 -> 3", "message 2 0 -> 2", "message 2 1 -> 2");
    }

    private void eventOf() {
        String[] five = {"processes 4", "4* step 3 -99", "send 3 99", "mark 3 5 1"};
        at("8: NONE: p", Worlds.RICH).keepsFor("eventOf # 1 0", "NONE", -1, 3, "MIN", "MAX").plays("eventOf 2 1 0 -> 2", "eventOf 0 1 0 -> 1");
        at("8: NONE: k", Worlds.RICH).keepsFor("eventOf 0 # 0", "NONE", 0, -1, 3, "MIN", "MAX").plays("eventOf 0 1 0 -> 1", "eventOf 0 2 0 -> 0");
        at("8: NONE: k of five", five).keeps("eventOf 3 6 0 -> NONE", "eventOf 3 0 0 -> NONE", "eventOf 2 1 0 -> NONE").plays("eventOf 3 5 0 -> 1", "eventOf 3 1 0 -> 0");
        at("8: NONE: what", Worlds.RICH).keepsFor("eventOf 0 1 #", "NONE", -1, 4, "MIN", "MAX");
        at("8: VALUE, and 100: 1 .. 199", five).keeps("eventOf 3 1 1 -> 1", "eventOf 3 5 1 -> 199");
        at("8: its MESSAGE (-5)", Worlds.RICH).keeps("eventOf 0 2 2 -> -5", "eventOf 0 1 2 -> 0", "eventOf 1 1 2 -> 0", "eventOf 2 2 2 -> 2");
        at("8: whether it has a MARK (1, 0)", five).keeps("eventOf 3 5 3 -> 1", "eventOf 3 4 3 -> 0");
    }

    private void clock() {
        at("9: NONE: p", Worlds.RICH).keepsFor("clock # 1 0", "NONE", -1, 3, "MIN", "MAX");
        at("9: NONE: k", Worlds.RICH).keepsFor("clock 0 # 0", "NONE", 0, -1, 3, "MIN", "MAX");
        at("9: NONE: q", Worlds.RICH).keepsFor("clock 0 1 #", "NONE", -1, 3, "MIN", "MAX");
        at("9: it itself counts", Worlds.FULLEST)
                .keeps("clock 0 1 0 -> 1", "clock 0 5 0 -> 5", "clock 3 1 3 -> 1", "clock 3 5 3 -> 5")
                .keeps("clock 0 5 1 -> 0", "clock 0 5 2 -> 0", "clock 0 5 3 -> 0", "clock 3 5 0 -> 0");
        at("9: all that is AHEAD, by several", "processes 4", "5* step 0 1", "back", "send 0 1", "take 1 0 1", "send 1 1", "take 2 1 1", "send 2 1", "take 3 2 1")
                .keeps("clock 3 1 0 -> 5", "clock 3 1 1 -> 2", "clock 3 1 2 -> 2", "clock 3 1 3 -> 1", "clock 2 1 3 -> 0", "clock 1 1 2 -> 0");
        at("9: of one PROCESS", "processes 1", "send 0 1", "take 0 0 1").keeps("clock 0 1 0 -> 1", "clock 0 2 0 -> 2", "clock 0 3 0 -> NONE", "clock 0 1 1 -> NONE");
    }

    private void ahead() {
        at("10: NONE: p", Worlds.RICH).keepsFor("ahead # 1 0 1", "NONE", -1, 3, "MIN", "MAX");
        at("10: NONE: k", Worlds.RICH).keepsFor("ahead 0 # 0 1", "NONE", 0, -1, 3, "MIN", "MAX");
        at("10: NONE: q", Worlds.RICH).keepsFor("ahead 0 1 # 1", "NONE", -1, 3, "MIN", "MAX");
        at("10: NONE: l", Worlds.RICH).keepsFor("ahead 0 1 0 #", "NONE", 0, -1, 3, "MIN", "MAX");
        at("10: one twice", Worlds.RICH).keeps("ahead 0 1 0 1 -> 0", "ahead 2 2 2 2 -> 0");
        at("10: neither", Worlds.RICH).keeps("ahead 0 2 1 1 -> 0", "ahead 1 1 0 2 -> 0", "ahead 2 2 0 2 -> 0");
        at("10: one of the same PROCESS that came earlier", Worlds.FULLEST)
                .keeps("ahead 0 4 0 5 -> 1", "ahead 0 5 0 4 -> 2", "ahead 3 1 3 5 -> 1", "ahead 3 5 3 1 -> 2", "ahead 0 5 3 5 -> 0", "ahead 0 1 3 5 -> 0");
        at("10: what SENDS a MESSAGE of what TAKES it", Worlds.RICH)
                .keeps("ahead 0 1 1 1 -> 1", "ahead 1 1 0 1 -> 2", "ahead 1 2 2 1 -> 1", "ahead 2 1 1 2 -> 2", "ahead 0 2 1 2 -> 0");
        at("10: by several one behind the other", Worlds.RICH).keeps("ahead 0 1 2 2 -> 1", "ahead 2 2 0 1 -> 2", "ahead 1 1 2 1 -> 1", "ahead 2 1 1 1 -> 2");
    }

    private void message() {
        at("11: NONE: m", Worlds.RICH).keepsFor("message # 0", "NONE", -1, 3, "MIN", "MAX").plays("message 2 0 -> 2");
        at("11: NONE: what", Worlds.RICH).keepsFor("message 0 #", "NONE", -1, 4, "MIN", "MAX").plays("message 0 3 -> 1");
        at("11: -5: none", Worlds.RICH).keeps("message 2 2 -> -5", "message 2 3 -> -5");
        at("11: the eighth", Worlds.EIGHT_MESSAGES).keeps("message 7 0 -> 1", "message 7 1 -> 4", "message 8 0 -> NONE", "message 2 2 -> 0", "message 2 3 -> 5");
    }
}
