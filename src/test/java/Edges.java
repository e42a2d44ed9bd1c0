import java.io.IOException;
import java.nio.file.Files;
import java.nio.file.Path;
import java.util.ArrayList;
import java.util.Arrays;
import java.util.List;

/** The sentences of the document, each with a test of its own, and a look at whether one has none. */
abstract class Edges {
    static final int MIN = Integer.MIN_VALUE;
    static final int MAX = Integer.MAX_VALUE;

    /**
     * 24 lines. Door 0 opens to 1 and 3 by heart, door 1 by rule 1 1, door 2 to 3 by what is nearest;
     * door 3 is a twin of door 1. The owner opens to 3 alone, house 0 to 1 and 3, house 1 to 2 and 3.
     */
    static final String FOUR = "school signs 2 teachers 2;"
            + "door heart slips 10;door shortest slips 20;door nearest slips 30;door heart slips 40;"
            + "lesson 0 1 open;lesson 0 3 shut;lesson 0 3 open;lesson 1 1 open;lesson 1 0 shut;"
            + "lesson 2 0 shut;lesson 2 3 open;lesson 3 2 open;twin 3 1;"
            + "exam 1 open;exam 2 shut;exam 3 open;exam 0 open;owner 3 3;house 1 1;house 2 2;"
            + "course takes 3;course takes 2;ahead 0 1;";
    static final String HEAD = "school signs 2 teachers 1;";
    static final String WIDE = "school signs 4 teachers 1;";
    static final String HEART = "door heart slips 0;";
    static final String SHORTEST = "door shortest slips 0;";
    static final String NEAREST = "door nearest slips 0;";
    static final String TWO = HEAD + HEART + HEART + "house 1 1;exam 1 open;";

    /** The promise's number for sentences under "Terms". */
    static final int TERMS = 0;
    private static final int PROMISES = 65;
    private static final Path DOCUMENT = Path.of("../shared/DOC.md");

    private static final List<String> SECTIONS = sections();
    private static final boolean[][] TESTED = new boolean[PROMISES + 1][];
    private static String sentence;
    private static int answers;
    private static boolean holds;
    private static int held;
    private static int broken;

    Edges() {
    }

    /** One sentence of a promise, told by its very words, and the calls that break if it is broken. */
    static void edge(int promise, String words, Runnable calls) {
        sentence = (promise == TERMS ? "Terms" : "promise " + promise) + ", '" + words + "'";
        answers = 0;
        holds = true;
        cover(promise, words);
        calls.run();
        if (answers == 0) {
            wrong("nothing was asked");
        }
        if (holds) {
            held++;
        } else {
            broken++;
        }
    }

    static void due(long due, long got, String call, long... args) {
        answers++;
        if (got != due) {
            wrong(told(call, args) + " answered " + got + ", due is " + due);
        }
    }

    static void wrong(String what) {
        holds = false;
        System.out.println("  " + sentence + ": " + what);
    }

    static String told(String call, long... args) {
        return call + Arrays.toString(args).replace('[', '(').replace(']', ')');
    }

    static void finish() {
        for (int promise = 0; promise <= PROMISES; promise++) {
            untested(promise);
        }
        System.out.println("EdgesTest: " + held + " sentences hold, " + broken + " not");
        if (broken != 0 || held == 0) {
            System.exit(1);
        }
    }

    // ---- what a call refuses, whatever else is told; 'at' is the place of the wrong number among the arguments ----

    /** Numbers that are no DOOR, as the first argument: of four DOORS, of two, and without a SCHOOL. */
    static void noDoor(long due, String call, long... rest) {
        wrongAt(Run.of(FOUR), due, call, 0, with(0, 0, rest), -1, 4, MIN, MAX);
        wrongAt(Run.of(TWO), due, call, 0, with(0, 0, rest), 2, 3);
        new Run().is(due, call, with(0, 0, rest));
    }

    /** Numbers that are no KNOCK of two signs; 32 and 64 would be KNOCK 0 to a shift that wraps round. */
    static void noKnock(long due, String call, int at, long... args) {
        wrongAt(Run.of(FOUR), due, call, at, args, -1, 4, 15, 32, 64, MIN, MAX);
        wrongAt(Run.of(FOUR.replace("signs 2", "signs 4")), due, call, at, args, -1, 16, 32, MIN, MAX);
    }

    static void noHouse(long due, String call, int at, long... args) {
        wrongAt(Run.of(FOUR), due, call, at, args, 2, 3, 4, MIN, MAX);
    }

    static void noWay(long due, String call, int at, long... args) {
        wrongAt(Run.of(FOUR), due, call, at, args, -1, 3, MIN, MAX);
    }

    /** Numbers that no argument named 'what' may be, of so many. */
    static void noWhat(int most, long due, String call, long... ahead) {
        long[] args = Arrays.copyOf(ahead, ahead.length + 1);
        wrongAt(Run.of(FOUR), due, call, ahead.length, args, -1, most, most + 1, MIN, MAX);
    }

    /** DEEDS, or sets of KNOCKS, beyond all KNOCKS. */
    static void noDeeds(long due, String call, int at, long... args) {
        wrongAt(Run.of(HEAD), due, call, at, args, -1, 16, 65535, MIN, MAX);
        wrongAt(Run.of(HEAD.replace("signs 2", "signs 3")), due, call, at, args, -1, 256, 65535);
        wrongAt(Run.of(WIDE), due, call, at, args, -1, 65536, MIN, MAX);
    }

    /** Numbers that are no SLOT, ahead of all else that is asked of one. */
    static void noSlot(long due, String call, int at, long... args) {
        wrongAt(Run.of(FOUR).row(0).row(1).row(2).row(3), due, call, at, args, -1, 4, MIN, MAX);
        wrongAt(new Run(), due, call, at, args, -1, 4, MIN, MAX);
    }

    static void noSchool(long due, String call, long... args) {
        new Run().is(due, call, args);
        Run.of(FOUR).is(0, "school").is(due, call, args);
    }

    /** Each of these numbers in turn at one place of the arguments is refused, and nothing changes. */
    static void wrongAt(Run x, long due, String call, int at, long[] args, long... wrong) {
        x.mark();
        for (long number : wrong) {
            long[] told = args.clone();
            told[at] = number;
            x.is(due, call, told);
        }
        x.asMarked();
    }

    private static long[] with(int at, long number, long[] rest) {
        long[] all = new long[rest.length + 1];
        System.arraycopy(rest, 0, all, 0, at);
        all[at] = number;
        System.arraycopy(rest, at, all, at + 1, rest.length - at);
        return all;
    }

    // ---- the document ----

    /** The Terms, then the promises, each without its heading and the call's face. */
    private static List<String> sections() {
        List<String> found = new ArrayList<>();
        try {
            String text = Files.readString(DOCUMENT);
            int end = text.indexOf("## Not promised");
            int at = text.indexOf("## Terms");
            while (at >= 0 && at < end) {
                int next = text.indexOf("\n## ", at) + 1;
                String section = text.substring(text.indexOf('\n', at), next).replace("```text", "").replace("```", "");
                found.add(section.replaceAll("^\\s*`[^`]*`:", "").replaceAll("\\s+", " "));
                at = next == end ? -1 : next;
            }
        } catch (IOException unread) {
            throw new IllegalStateException(unread);
        }
        return found;
    }

    private static void cover(int promise, String words) {
        String section = SECTIONS.get(promise);
        if (TESTED[promise] == null) {
            TESTED[promise] = new boolean[section.length()];
        }
        int at = section.indexOf(words);
        if (at < 0 || words.isEmpty()) {
            wrong("the document has no such words there");
            return;
        }
        // The same words may stand there more than once: the first place that is not tested yet is meant.
        while (TESTED[promise][at] && section.indexOf(words, at + 1) >= 0) {
            at = section.indexOf(words, at + 1);
        }
        Arrays.fill(TESTED[promise], at, at + words.length(), true);
    }

    private static void untested(int promise) {
        String section = SECTIONS.get(promise);
        StringBuilder left = new StringBuilder();
        for (int i = 0; i < section.length(); i++) {
            boolean tested = TESTED[promise] != null && TESTED[promise][i];
            left.append(tested ? ' ' : section.charAt(i));
        }
        String words = left.toString().replaceAll("[ .:;,|]+", " ").trim();
        if (!words.isEmpty()) {
            broken++;
            System.out.println("  " + (promise == TERMS ? "Terms" : "promise " + promise) + ": no test of '" + words + "'");
        }
    }
}
