import java.util.List;
import java.util.Map;

/**
 * The edges that one sentence of the document names, in a world that lines tell (see Asked). A row
 * is a line, perhaps with the answer that is due: "step 0 1 -> 3", "step 0 100 -> BAD".
 */
final class Edges {
    private static final String ARROW = " -> ";
    private static final Map<String, Long> ANSWERS = Map.of("NONE", -1L, "BAD", -2L, "STATE", -3L, "FULL", -4L, "NOT", -5L,
            "MISSING", -11L, "PLACE", -13L, "BELOW", -14L, "VOID", Long.MIN_VALUE);

    private final Due due;
    private final String[] world;

    Edges(Due due, String sentence, String... world) {
        this.due = due;
        this.world = world;
        due.under(sentence);
    }

    /** One behind the other on one object. */
    Edges plays(String... rows) {
        told(rows);
        return this;
    }

    /** Each on an object of its own, of which all that can be seen stays as it is without the call. */
    Edges keeps(String... rows) {
        return likeBehind(new String[0], rows);
    }

    /** As with keeps, but that the tape is empty behind the call. */
    Edges keepsButTape(String... rows) {
        return likeBehind(new String[] {"wipe"}, rows);
    }

    /** The call with each of the words in the place of #: one answer for all, and all stays as it is. */
    Edges keepsFor(String call, String answer, Object... words) {
        for (Object word : words) {
            keeps(call.replace("#", word.toString()) + ARROW + answer);
        }
        return this;
    }

    private Edges likeBehind(String[] others, String... rows) {
        List<String> want = seenBehind(others);
        for (String row : rows) {
            compare(row, seenBehind(row), want);
        }
        return this;
    }

    /** Two objects of this world, one told by the one rows, one by the others, look alike then. */
    Edges alike(String what, String[] rows, String[] others) {
        compare(what, seenBehind(rows), seenBehind(others));
        return this;
    }

    /** As with alike; but what the image holds is not looked at. */
    Edges alikeNow(String what, String[] rows, String[] others) {
        compare(what, Sight.now(told(rows)), Sight.now(told(others)));
        return this;
    }

    private List<String> seenBehind(String... rows) {
        return Sight.of(told(rows));
    }

    /** An object of this world, told the rows behind it. */
    private Asked told(String... rows) {
        Asked asked = new Asked();
        for (String row : join(world, rows)) {
            askRow(asked, row);
        }
        return asked;
    }

    private void askRow(Asked asked, String row) {
        int arrow = row.startsWith("TAPE ") ? -1 : row.indexOf(ARROW);
        if (arrow < 0) {
            asked.ask(row);
            return;
        }
        String answer = row.substring(arrow + ARROW.length());
        long want = ANSWERS.containsKey(answer) ? ANSWERS.get(answer) : Asked.number(answer);
        due.is(row.substring(0, arrow), asked.ask(row.substring(0, arrow)), want);
    }

    private void compare(String row, List<String> got, List<String> want) {
        String first = firstDifference(got, want);
        due.isTrue(row + " changed what is not due: " + first, first.isEmpty());
    }

    private static String firstDifference(List<String> got, List<String> want) {
        for (int i = 0; i < Math.max(got.size(), want.size()); i++) {
            String is = i < got.size() ? got.get(i) : "the end";
            String due = i < want.size() ? want.get(i) : "the end";
            if (!is.equals(due)) {
                return is + " instead of " + due;
            }
        }
        return "";
    }

    /** Several rows as one world. */
    static String[] join(String[] world, String... more) {
        String[] all = new String[world.length + more.length];
        System.arraycopy(world, 0, all, 0, world.length);
        System.arraycopy(more, 0, all, world.length, more.length);
        return all;
    }
}
