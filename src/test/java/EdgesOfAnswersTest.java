/**
 * What the document says of all calls, in its terms, part 3: "What is asked changes nothing" (also
 * where something changes behind it), and what an image holds, compared by all that can be seen.
 */
public final class EdgesOfAnswersTest {
    /** Three processes, 11 cuts, two conditions: as Worlds.RICH. */
    private static final String[] ASKS_OF_RICH = {
        "cuts", "cut 10", "which 222", "level 3", "next 1 -1", "meet 5 6", "join 5 6", "under 3", "value 3 1", "ways -1", "ways 5", "ways 10",
        "holds 0 3", "possible 0 2", "sure 0", "around 0 1", "slice 0 2", "regular 0", "least 0 1 1",
        "holds 2 3", "possible 2 2", "sure 2", "around 2 1", "slice 2 2", "regular 2", "least 2 1 1",
        "eventOf 0 1 1", "clock 2 2 0", "ahead 0 1 2 1", "message 1 3", "line", "get 0 1", "judge 0 0", "count 3"
    };
    private static final String[] ASKS_OF_NONE = {
        "cut 11", "which 1", "which 333", "level -1", "next 0 9", "meet 0 11", "join -1 0", "under 99", "value 0 3", "ways 11", "holds 1 0", "holds 0 11",
        "possible 1 0", "possible 0 99", "sure 1", "around 1 0", "around 0 -1", "slice 1 -1", "slice 0 99", "regular 3", "least 1 0 1", "least 2 2 1",
        "eventOf 0 9 0", "clock 0 0 0", "ahead 0 1 0 9", "message 3 0", "get 1 0", "judge 1 0", "count 7"
    };
    private static final String[][] CHANGES = {
        {"processes 3"}, {"processes 1"}, {"processes 4", "wipe", "TAPE x3=c3", "read 0", "step 3 1"},
        {"start 0 1"}, {"start 2 -99"}, {"step 0 3"}, {"step 2 3"}, {"send 0 4"}, {"send 1 4"}, {"take 0 2 5"}, {"take 2 2 5"},
        {"back"}, {"2* back"}, {"6* back"}, {"back", "step 1 1"}, {"back", "send 0 1"},
        {"read 0"}, {"read 1"}, {"read 2"}, {"wipe", "TAPE x0=x", "read 0"}, {"forget 0"}, {"forget 0", "read 0"}, {"forget 2"},
        {"mark 0 1 1"}, {"mark 0 2 0"}, {"mark 2 2 1"}, {"feed 49"}, {"wipe"}, {"wipe", "TAPE s 0 1;e 1 2;t 1 3 3", "tell"},
        {"wipe", "TAPE e 1 2;t 0 9 1", "tell"}, {"tell"}, {"list 0 2"}, {"list 0 -1"}, {"list 1 5"}, {"lay 0 2 5"}, {"film 1 0"}, {"film 0 2"},
        {"image"}, {"undo"}, {"image", "back", "undo"}, {"undo", "step 0 2"}, {"undo", "forget 0", "undo"}
    };
    /** All that an image holds is told otherwise, at each place where something can stand. */
    private static final String[] ALL_OTHERWISE = {
        "processes 4", "start 0 -1", "start 1 -2", "start 2 -3", "start 3 -4", "wipe", "TAPE x3=c3&!m>3", "read 0", "TAPE 1=2|1=3", "read 1", "TAPE x1=8", "read 2",
        "2* send 3 -11", "2* send 2 -12", "2* send 1 -13", "2* send 0 -14", "take 0 0 -15", "take 0 1 -16", "take 1 2 -17", "take 2 7 -18", "take 3 6 -19",
        "take 3 5 -20", "step 2 -21", "step 2 -22", "step 3 -23", "step 1 -24", "step 1 -25", "step 0 -26", "mark 0 1 1", "mark 0 3 1", "mark 1 2 1", "mark 2 1 1", "mark 3 5 1", "wipe"
    };
    /** An image with events at each place, three conditions and marks. */
    private static final String[] FULL_IMAGE = {
        "processes 4", "start 0 1", "start 1 2", "start 2 3", "start 3 4", "step 0 10", "send 0 11", "send 1 12", "take 2 0 13", "send 2 14", "take 3 1 15",
        "send 3 16", "take 0 2 17", "take 1 3 18", "step 1 19", "send 1 20", "take 2 4 21", "step 3 22", "step 3 23", "send 0 24", "take 3 5 25", "step 2 26",
        "step 2 27", "step 1 28", "step 0 29", "mark 0 4 1", "mark 1 3 1", "mark 2 2 1", "mark 3 1 1", "mark 0 2 1",
        "TAPE m=1&c0>1", "read 0", "TAPE !x0=11", "read 1", "TAPE c0+c1=c2+c3", "read 2", "image"
    };

    private final Due due = new Due();

    public static void main(String[] args) {
        EdgesOfAnswersTest test = new EdgesOfAnswersTest();
        test.whatIsAskedChangesNothing();
        test.nothingIsAnsweredFromAheadOfAChange();
        test.allIsAsTheImage();
        test.wildNumbers();
        test.due.end();
    }

    private void whatIsAskedChangesNothing() {
        new Edges(due, "terms 3: what is asked changes nothing", Worlds.RICH)
                .keeps(ASKS_OF_RICH).keeps(ASKS_OF_NONE)
                .alike("all that is asked", Edges.join(ASKS_OF_RICH, ASKS_OF_NONE), new String[0]);
    }

    private void nothingIsAnsweredFromAheadOfAChange() {
        for (String[] change : CHANGES) {
            new Edges(due, "terms 3: what was asked ahead of a change", Worlds.RICH)
                    .alike(String.join(", ", change), Edges.join(ASKS_OF_RICH, change), change);
        }
    }

    private void allIsAsTheImage() {
        new Edges(due, "42: all is as THE IMAGE", FULL_IMAGE)
                .alikeNow("behind nothing", new String[] {"undo -> 20"}, new String[0])
                .alikeNow("behind other events", Edges.join(ALL_OTHERWISE, "undo -> 20"), new String[0])
                .alikeNow("behind no events", new String[] {"20* back", "undo -> 20"}, new String[0]);
        new Edges(due, "42: all is as THE IMAGE, which had less", "start 1 5", "send 0 1", "mark 0 1 1", "TAPE m=1", "read 1", "image")
                .alikeNow("behind other events", Edges.join(ALL_OTHERWISE, "undo -> 1"), new String[0]);
        new Edges(due, "42: all is as THE IMAGE, which had nothing", "processes 1", "image")
                .alikeNow("behind other events", Edges.join(ALL_OTHERWISE, "undo -> 0"), new String[0]);
        new Edges(due, "42: what comes behind undo() does not change THE IMAGE", FULL_IMAGE)
                .alikeNow("behind changes and undo()", new String[] {"undo", "start 0 9", "mark 0 2 0", "forget 1", "back", "step 1 1", "undo"}, new String[0]);
    }

    /** No call throws, whatever its numbers: each of a call's numbers is each of these. */
    private void wildNumbers() {
        due.under("no call throws");
        String[] calls = {
            "processes", "start 2", "step 2", "send 2", "take 3", "back", "eventOf 3", "clock 3", "ahead 4", "message 2", "cuts", "cut", "which", "level",
            "next 2", "meet 2", "join 2", "under", "value 2", "ways", "read", "holds 2", "possible 2", "sure", "around 2", "slice 2", "regular", "least 3",
            "forget", "mark 3", "line", "feed", "wipe", "tell", "list 2", "lay 3", "get 2", "film 2", "judge 2", "image", "undo", "count"
        };
        String[] numbers = {"MIN", "-2147483647", "-14", "-5", "-2", "-1", "0", "1", "2", "3", "5", "11", "1296", "5555", "268435456", "MAX"};
        int made = 0;
        for (String call : calls) {
            String[] words = call.split(" ");
            int places = isWithout(words[0]) ? 0 : words.length == 1 ? 1 : Integer.parseInt(words[1]);
            Asked asked = null;
            for (int i = 0; i < Math.pow(numbers.length, Math.min(places, 2)); i++) {
                asked = i % 256 == 0 ? rich() : asked;
                StringBuilder line = new StringBuilder(words[0]);
                for (int place = 0; place < places; place++) {
                    line.append(' ').append(numbers[(place % 2 == 0 ? i : i / numbers.length) % numbers.length]);
                }
                asked.ask(line.toString());
                made++;
            }
        }
        due.isTrue("calls were made", made > 42);
    }

    private static boolean isWithout(String call) {
        return " back cuts line wipe tell image undo ".contains(" " + call + " ");
    }

    private static Asked rich() {
        Asked asked = new Asked();
        for (String line : Worlds.RICH) {
            asked.ask(line);
        }
        return asked;
    }
}
