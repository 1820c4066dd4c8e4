/** Worlds that several tests stand on, as lines (see Asked). */
final class Worlds {
    private Worlds() {
    }

    /**
     * Something of all: 0 sends message 0, steps; 1 takes it, sends message 1; 2 takes that, sends
     * message 2. Cuts: 000 100 110 120 121 122 200 210 220 221 222. Condition 1 is none, list 1
     * missing, list 2 empty; the image has the last event not yet; the tape has a text of 8 bytes.
     */
    static final String[] RICH = {
        "processes 3", "start 0 7", "start 2 -9",
        "send 0 5", "take 1 0 -7", "send 1 2", "take 2 1 9", "step 0 1",
        "mark 1 1 1", "mark 0 2 1",
        "TAPE m=1", "read 0", "TAPE c0>0&c1<2", "read 2",
        "list 0 3", "lay 0 0 1", "lay 0 1 3", "lay 0 2 -5", "list 2 0",
        "image", "send 2 4", "TAPE x0=1|m>1"
    };

    /** Four processes with five steps each. */
    static final String[] FULLEST = {"processes 4", "5* step 0 1", "5* step 1 2", "5* step 2 3", "5* step 3 4"};

    /** Eight messages, four of each process, message 2 taken by process 0, which has its five events. */
    static final String[] EIGHT_MESSAGES = {"4* send 0 1", "4* send 1 2", "take 0 2 3"};
}
