import java.lang.reflect.InvocationTargetException;
import java.lang.reflect.Method;
import java.util.HashMap;
import java.util.Map;

/** One DoorSchool and its calls, told by their names; what they answer is held against the sentence at hand. */
final class Run {
    private static final int MOST_CALLS = 512;
    private static final Map<String, Method> CALLS = new HashMap<>();

    static {
        for (Method method : DoorSchool.class.getDeclaredMethods()) {
            if ((method.getModifiers() & java.lang.reflect.Modifier.PUBLIC) != 0) {
                CALLS.put(method.getName(), method);
            }
        }
    }

    private final DoorSchool school = new DoorSchool();
    private int calls;
    private String marked = "";

    /** A new object whose SCHOOL is told by a text without FAULT. */
    static Run of(String text) {
        Run x = new Run();
        x.feed(text);
        long lines = x.ask("school");
        if (lines < 0) {
            Edges.wrong("the text has FAULT " + x.ask("fault", 0) + " at " + x.ask("fault", 1) + ": " + text);
        }
        return x;
    }

    long ask(String call, long... args) {
        calls++;
        if (calls > MOST_CALLS) {
            Edges.wrong("an object is used for more calls than the document promises anything of");
        }
        Method method = CALLS.get(call);
        Object[] told = new Object[args.length];
        for (int i = 0; i < args.length; i++) {
            boolean wide = method.getParameterTypes()[i] == long.class;
            told[i] = wide ? (Object) args[i] : (Object) Math.toIntExact(args[i]);
        }
        try {
            return ((Number) method.invoke(school, told)).longValue();
        } catch (InvocationTargetException thrown) {
            Edges.wrong(Edges.told(call, args) + " threw " + thrown.getCause());
            return Long.MIN_VALUE;
        } catch (IllegalAccessException refused) {
            throw new IllegalStateException(refused);
        }
    }

    Run is(long due, String call, long... args) {
        Edges.due(due, ask(call, args), call, args);
        return this;
    }

    /** One call for each number from 0 on, put as its last argument. */
    Run are(long[] due, String call, long... args) {
        for (int last = 0; last < due.length; last++) {
            long[] all = java.util.Arrays.copyOf(args, args.length + 1);
            all[args.length] = last;
            is(due[last], call, all);
        }
        return this;
    }

    /** Puts a text behind the TAPE, of which no byte is lost and behind which none is added. */
    Run feed(String text) {
        long before = ask("count", 8);
        for (int at = 0; at < text.length(); at += 20) {
            long[] five = new long[5];
            for (int i = 0; i < 20; i++) {
                int sign = at + i < text.length() ? text.charAt(at + i) : ' ';
                five[i / 4] = (int) (five[i / 4] << 8 | sign & 255);
            }
            ask("feed", five);
        }
        return is(before + text.length(), "end", before + text.length());
    }

    Run reads(long due, String text) {
        return feed(text).is(due, "school");
    }

    /** The text has a FAULT just behind what stands ahead of it. */
    static void fault(int what, String ahead, String rest) {
        new Run().reads(-4, ahead + rest).is(what, "fault", 0).is(ahead.length(), "fault", 1);
    }

    /** Gives a SLOT a row of numbers of four bytes each. */
    Run row(int slot, long... numbers) {
        is(0, "row", slot, 2, numbers.length);
        for (int i = 0; i < numbers.length; i++) {
            is(0, "write", slot, i, numbers[i]);
        }
        return this;
    }

    /** Keeps in mind all that can be asked of the SCHOOL, the TAPE and the SLOTS. */
    Run mark() {
        marked = state();
        return this;
    }

    Run asMarked() {
        String now = state();
        Edges.due(1, now.equals(marked) ? 1 : 0, "all as before:\n    " + marked + "\n    " + now);
        return this;
    }

    /** As asMarked(), but for how many bytes are on the TAPE and the latest FAULT. */
    Run schoolAsMarked() {
        String now = state();
        String school = now.substring(now.indexOf('S'));
        Edges.due(1, marked.endsWith(school) ? 1 : 0, "the school as before:\n    " + marked + "\n    " + now);
        return this;
    }

    private String state() {
        StringBuilder all = new StringBuilder();
        add(all, 8, "count", 8);
        add(all, 2, "fault");
        all.append("School ");
        add(all, 8, "count");
        add(all, 1, "count", 9);
        add(all, 2, "house", -1);
        for (int door = 0; door < ask("count", 2); door++) {
            add(all, 4, "door", door);
            for (int i = 0; i < ask("door", door, 2); i++) {
                add(all, 2, "lesson", door, i);
            }
        }
        for (int exam = 0; exam < ask("count", 3); exam++) {
            add(all, 2, "exam", exam);
        }
        for (int house = 0; house < ask("count", 4); house++) {
            add(all, 2, "house", house);
        }
        for (int course = 0; course < ask("count", 5); course++) {
            add(all, -1, "begins", course);
        }
        for (int slot = 0; slot < 4; slot++) {
            add(all, -1, "same", slot);
            add(all, 2, "sure", slot);
        }
        return all.toString();
    }

    /** The answers for 0 .. most less 1 as the last argument; of a call with all its arguments, the one answer. */
    private void add(StringBuilder all, int most, String call, long... args) {
        if (args.length == CALLS.get(call).getParameterCount()) {
            all.append(ask(call, args)).append(' ');
            return;
        }
        for (int last = 0; last < most; last++) {
            long[] told = java.util.Arrays.copyOf(args, args.length + 1);
            told[args.length] = last;
            all.append(ask(call, told)).append(' ');
        }
    }
}
