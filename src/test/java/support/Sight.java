import java.util.ArrayList;
import java.util.List;

/** All that can be seen of an object: lines of calls with their answers. The object is used up by it. */
final class Sight {
    private static final int MOST_LONGS = 20;

    private final Asked asked;
    private final List<String> seen = new ArrayList<>();

    private Sight(Asked asked) {
        this.asked = asked;
    }

    static List<String> of(Asked asked) {
        Sight sight = new Sight(asked);
        sight.all();
        if (sight.look("undo") >= 0) {
            sight.world();
            sight.goBack();
        }
        return sight.seen;
    }

    /** Without the image. */
    static List<String> now(Asked asked) {
        Sight sight = new Sight(asked);
        sight.all();
        return sight.seen;
    }

    private void all() {
        lists();
        counts();
        world();
        tape();
        goBack();
    }

    private long look(String line) {
        long answer = asked.ask(line);
        seen.add(line + " -> " + answer);
        return answer;
    }

    private void counts() {
        for (int what = 0; what <= 6; what++) {
            look("count " + what);
        }
    }

    private void lists() {
        for (int list = 0; list < 3; list++) {
            look("judge " + list + " 0");
            for (int i = 0; i <= MOST_LONGS; i++) {
                if (look("get " + list + " " + i) == Long.MIN_VALUE) {
                    break;
                }
            }
        }
    }

    /** What an image holds. */
    private void world() {
        long processes = look("count 0");
        for (int p = 0; p < processes; p++) {
            look("value 0 " + p);
            events(p, processes);
        }
        for (int m = 0; look("message " + m + " 0") >= 0; m++) {
            for (int what = 1; what <= 3; what++) {
                look("message " + m + " " + what);
            }
        }
        long cuts = look("cuts");
        look("ways -1");
        look("ways " + cuts / 2);
        look("ways " + (cuts - 1));
        look("line");
        for (int c = 0; c < 3; c++) {
            condition(c);
        }
    }

    private void events(int p, long processes) {
        int k = 1;
        while (look("eventOf " + p + " " + k + " 0") >= 0) {
            for (int what = 1; what <= 3; what++) {
                look("eventOf " + p + " " + k + " " + what);
            }
            k++;
        }
        for (int q = 0; q < processes; q++) {
            look("clock " + p + " " + (k - 1) + " " + q);
        }
    }

    private void condition(int c) {
        if (look("possible " + c + " -1") >= 0) {
            look("possible " + c + " 0");
            look("possible " + c + " 1");
            look("slice " + c + " -1");
            look("slice " + c + " 1");
            look("around " + c + " 1");
            look("least " + c + " 0 1");
        }
    }

    /** The bytes themselves can not be asked for, only what they say as a condition. */
    private void tape() {
        look("read 0");
        condition(0);
    }

    private void goBack() {
        while (look("back") >= 0) {
            look("count 2");
        }
    }
}
