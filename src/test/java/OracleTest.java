import java.lang.reflect.InvocationTargetException;
import java.lang.reflect.Method;
import java.util.Arrays;
import java.util.Random;

/** Runs of drawn calls on DoorSchool and on Naive: both must answer alike. */
public final class OracleTest {
    private static final int RUNS = 240;
    private static final int CALLS = 400;

    /** Each call with what its arguments are drawn as; those told twice come twice as often. */
    private static final String[] CALLS_DRAWN = {
        "feed vvvvv", "end e", "fault w", "door dw", "lesson dlw", "exam lw", "house hw", "opens dk", "deeds d",
        "often d", "why dk", "why dk", "rule dw", "rules d", "does kk", "told Dw", "told Rw", "marks d", "wrong d",
        "best ", "hard ", "teach dko", "teach dko", "teach dko", "teach dko", "unteach ", "gains dko", "help d",
        "idle d", "fewest yF", "course yF", "sets yFn", "sets yFn", "easiest F", "fewest yR", "course yR", "easiest R",
        "fooled dw", "tries dk", "trick dk", "harden d", "left d", "game dyk", "rests d", "rest d", "way dw",
        "errors yD", "learnt yD", "next yD", "next yD", "same s", "alike d", "copy dd", "copy dd", "copy dd",
        "hanging ", "hung h", "amiss dh", "fits s", "sure sw", "ask s", "leaves s", "hours ", "begins c", "teacher ",
        "train dwy", "train dwn", "owns kk", "owns kk", "storm xdw", "years xndw", "count C", "image i", "back i",
        "row sim", "write slv", "write slk", "write slk", "paste slslm", "fill ", "fill ", "school ",
    };

    private final Random random;
    private final DoorSchool real = new DoorSchool();
    private final Naive naive = new Naive();
    private final StringBuilder story = new StringBuilder();

    private OracleTest(long seed) {
        random = new Random(seed);
    }

    public static void main(String[] args) throws Exception {
        for (int seed = 1; seed <= RUNS; seed++) {
            new OracleTest(seed).run(seed);
        }
        Check.finish("OracleTest");
    }

    private void run(int seed) throws Exception {
        if (seed % 8 != 0) {
            readSchool(Texts.whole(random));
        }
        for (int i = 0; i < CALLS; i++) {
            String[] drawn = CALLS_DRAWN[random.nextInt(CALLS_DRAWN.length)].split(" ", -1);
            switch (drawn[0]) {
                case "school" -> {
                    if (random.nextInt(4) == 0) {
                        readSchool(random.nextInt(3) == 0 ? Texts.whole(random) : Texts.spoilt(random));
                    }
                }
                case "fill" -> fillRow();
                default -> both(drawn[0], drawnFor(drawn[0], drawn[1]));
            }
        }
    }

    private void readSchool(String text) throws Exception {
        both("end", 0);
        for (int at = 0; at < text.length(); at += 20) {
            Object[] five = new Object[5];
            for (int i = 0; i < 5; i++) {
                int four = 0;
                for (int k = 0; k < 4; k++) {
                    int place = at + 4 * i + k;
                    four = four << 8 | (place < text.length() ? text.charAt(place) & 255 : ' ');
                }
                five[i] = four;
            }
            both("feed", five);
        }
        both("end", text.length());
        both("school");
        both("fault", 0);
        both("fault", 1);
        for (int what = 0; what < 10; what++) {
            both("count", what);
        }
    }

    private void fillRow() throws Exception {
        int slot = random.nextInt(4);
        int n = 2 * random.nextInt(4);
        both("row", slot, random.nextInt(4), n);
        for (int i = 0; i < n; i++) {
            both("write", slot, i, (long) (i % 2 == 1 ? random.nextInt(2) : random.nextInt(knocks())));
        }
        for (String call : new String[] {"same", "fits", "ask", "leaves"}) {
            both(call, slot);
        }
    }

    private int knocks() {
        return 1 << Math.max(2, real.count(0));
    }

    private Object[] drawnFor(String call, String letters) {
        Object[] args = new Object[letters.length()];
        for (int i = 0; i < args.length; i++) {
            args[i] = call.equals("write") && i == 2 ? (Object) drawnLong(letters.charAt(i)) : (Object) drawn(letters.charAt(i));
        }
        return args;
    }

    private long drawnLong(char letter) {
        return letter == 'v' ? random.nextLong() : random.nextInt(4) + 256L * random.nextInt(2);
    }

    private int drawn(char letter) {
        boolean wild = random.nextInt(40) == 0;
        if (wild) {
            int[] far = {-1, -2, 61, 1600, Integer.MIN_VALUE, Integer.MAX_VALUE, 65536, 1 << 16 | 1, -65536};
            return far[random.nextInt(far.length)];
        }
        switch (letter) {
            case 'd': return random.nextInt(20) == 0 ? -1 : random.nextInt(4);
            case 'h': return random.nextInt(5) - 1;
            case 's': return random.nextInt(4);
            case 'w': return random.nextInt(15) == 0 ? 4 : random.nextInt(3);
            case 'y': return random.nextInt(25) == 0 ? 3 : random.nextInt(3);
            case 'o': return random.nextInt(25) == 0 ? 2 : random.nextInt(2);
            case 'l': return random.nextInt(8);
            case 'm': return random.nextInt(12);
            case 'c': return random.nextInt(7);
            case 'C': return random.nextInt(12) - 1;
            case 'i': return random.nextInt(4);
            case 'n': return random.nextInt(knocks() + 2);
            case 'k': return random.nextInt(10) == 0 ? knocks() : random.nextInt(knocks());
            case 'D': return random.nextInt(1 << knocks());
            case 'F': return fewestDeeds();
            case 'R': return ruleDeeds();
            case 'x': return random.nextInt(10) == 0 ? 2000000000 : random.nextInt(2000000000);
            case 'e': return random.nextInt(1601);
            default: return random.nextInt();
        }
    }

    /** Over four signs Naive takes long for each DEEDS, and keeps what it found: few of them are drawn there. */
    private int fewestDeeds() {
        int[] few = {0, 1, 0x6996, 0x8000, 0xfff0, 0x1234, 0xff55, 0xffff};
        return knocks() == 16 ? few[random.nextInt(few.length)] : random.nextInt((1 << knocks()) + 1);
    }

    private int ruleDeeds() {
        int[] few = {0xffff, 0xaaaa, 0x3333, 0x0a0a, 0x8080, 0x0040};
        int deeds = few[random.nextInt(few.length)];
        return knocks() == 16 ? deeds : deeds & (1 << knocks()) - 1;
    }

    private void both(String call, Object... args) throws Exception {
        long want = answer(naive, call, args);
        long got = answer(real, call, args);
        story.append(call).append(Arrays.toString(args)).append(" = ").append(got).append('\n');
        Check.due(call + Arrays.toString(args), got, want);
        if (got != want) {
            System.out.println(story);
            Check.finish("OracleTest");
        }
    }

    private static long answer(Object of, String call, Object[] args) throws Exception {
        for (Method method : of.getClass().getDeclaredMethods()) {
            if (method.getName().equals(call) && method.getParameterCount() == args.length) {
                try {
                    return ((Number) method.invoke(of, args)).longValue();
                } catch (InvocationTargetException thrown) {
                    throw new IllegalStateException(of.getClass() + "." + call + Arrays.toString(args), thrown.getCause());
                }
            }
        }
        throw new IllegalStateException("no call " + call);
    }
}
