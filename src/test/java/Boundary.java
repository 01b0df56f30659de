import java.io.IOException;
import java.io.UncheckedIOException;
import java.nio.file.Files;
import java.nio.file.Path;
import java.util.Set;
import java.util.TreeSet;

/** Rows of tests, each under the promise and the sentence of the document whose boundary it tries. */
final class Boundary {
    static final int BAD = -1, STATE = -2, FULL = -3, NONE = -4;
    static final int LEAST = Integer.MIN_VALUE, MOST = Integer.MAX_VALUE;
    static final int TERMS = 0;

    /** SHEET 0 of BYTES, 1 of SHORTS, 2 of INTS without CELLS, 3 of nothing; torn() is 3. */
    static final String ROWS = "sheet(0, 0, 6) | lay(0, 0, 2) | lay(0, 1, 7) | lay(0, 3, 5) | lay(0, 4, 1) | lay(0, 5, 9)"
            + " | sheet(1, 1, 4) | lay(1, 0, 3) | lay(1, 1, 8) | sheet(2, 2, 0) | read(0, 1, 0, 1)";
    /** Four PARROTS in DAY 7, two SEEN that come true, both IMAGES, SHEETS, fault() 1, 6 bytes on THE TAPE. */
    static final String BUSY = "text plain 1 2 3;old 4 5 6;young 7 8;sly 9 0 1;ear 2; | see(0, 1) | keep(1) | days(5)"
            + " | forget(0) | see(0, 6) | see(2, 0) | keep(0) | days(2) | forget(0) | see(0, 0) | see(3, 6) | text @ | "
            + ROWS + " | feed ear 3;";
    /** Five PARROTS, each plain and with one SOUND, its own number. */
    static final String FIVE = "text plain 0;plain 1;plain 2;plain 3;plain 4;";

    private static final Path DOCUMENT = Path.of("../shared/DOC.md");
    private static final Set<String> QUESTIONS = Set.of("fault", "rule", "parrot", "knows", "says", "when", "often",
            "phrase", "ahead", "lesson", "away", "swap", "far", "kind", "luck", "mean", "kinds", "sounds", "ask",
            "drift", "torn", "count");
    /** These may tell of THE TAPE, too. */
    private static final Set<String> OF_THE_TAPE = Set.of("fault", "count");

    private final Due due;
    private final String document = readDocument();
    private final Set<Integer> tried = new TreeSet<>();
    private String name = "";

    Boundary(String of) {
        due = new Due(of);
    }

    /** Empty where the document isn't beside the checkout: then sentences can't be looked up. */
    private static String readDocument() {
        try {
            return Files.exists(DOCUMENT) ? Files.readString(DOCUMENT) : "";
        } catch (IOException e) {
            throw new UncheckedIOException(e);
        }
    }

    private String section(int promise) {
        String head = promise == TERMS ? "\n## Terms\n" : "\n## Promise " + promise + ": ";
        int from = document.indexOf(head);
        int to = from < 0 ? -1 : document.indexOf("\n## ", from + 1);
        return to < 0 ? "" : document.substring(from, to);
    }

    /** What follows tries these words of a promise, or of the section 'Terms'. */
    void sentence(int promise, String words) {
        tried.add(promise);
        name = (promise == TERMS ? "Terms" : "promise " + promise) + " '" + words + "'";
        due.isTrue(name + " stands in the document", document.isEmpty() || section(promise).contains(words));
    }

    void hold(String what, long got, long want) {
        due.is(name + ": " + what, got, want);
    }

    /** A call behind a run. A question, and what is refused, must leave all as it was. */
    void is(String run, String call, long want) {
        due.is(name + ": " + brief(behind(run, call)), new Scene(run).call(call), want);
        String asked = call.substring(0, call.indexOf('('));
        boolean isRefused = want < 0 && !call.equals("text()");
        if (isRefused || QUESTIONS.contains(asked)) {
            isSame(behind(run, call), run);
        }
        if (QUESTIONS.contains(asked)) {
            is(behind(run, call), call, want, "once more");
        }
        if (QUESTIONS.contains(asked) && !OF_THE_TAPE.contains(asked)) {
            // a text with a FAULT changes nothing else, though all was read in it that stands ahead of the FAULT
            is(behind(run, "end(0) | text old 8;sly 8;ear 4;@"), call, want, "behind a text with a FAULT");
        }
    }

    private void is(String run, String call, long want, String why) {
        due.is(name + ", " + why + ": " + brief(behind(run, call)), new Scene(run).call(call), want);
    }

    /** The call with first, first and 1, and so on in place of the sign #. */
    void calls(String run, String call, int first, long... wants) {
        for (int i = 0; i < wants.length; i++) {
            is(run, call.replace("#", Integer.toString(first + i)), wants[i]);
        }
    }

    /** BAD is due one step below the least number, one above the most, and as far as numbers go. */
    void outside(String run, String call, int least, int most) {
        for (int v : new int[] {least - 1, most + 1, LEAST, MOST}) {
            is(run, call.replace("#", Integer.toString(v)), BAD);
        }
    }

    /** The same is seen of the object behind the call as of one behind another run. */
    void becomes(String run, String call, long want, String other) {
        is(run, call, want);
        isSame(behind(run, call), other);
    }

    void isSame(String run, String other) {
        due.isTrue(name + ": all behind " + brief(run) + " is as behind " + brief(other),
                Scene.picture(run).equals(Scene.picture(other)));
    }

    /** A text with a FAULT behind a run whose TAPE is empty changes nothing but what fault() tells. */
    void staysBehindFaulty(String run, String text) {
        String behind = behind(run, "text " + text);
        due.isTrue(name + ": what was told stays behind " + brief(behind),
                Scene.pictureButFault(behind).equals(Scene.pictureButFault(run)));
    }

    private static String brief(String run) {
        return run.isEmpty() ? "nothing" : run.replace(BUSY, "BUSY").replace(ROWS, "ROWS");
    }

    static String behind(String run, String item) {
        return run.isEmpty() ? item : run + " | " + item;
    }

    /** Each of these promises must have had its sentence. */
    void close(int first, int last) {
        for (int promise = first; promise <= last; promise++) {
            due.isTrue("promise " + promise + " is tried", tried.contains(promise));
        }
        due.close();
    }
}
