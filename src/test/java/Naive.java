import java.util.ArrayList;
import java.util.HashMap;
import java.util.List;
import java.util.Map;
import java.util.function.BiFunction;
import java.util.function.IntPredicate;
import java.util.regex.Matcher;
import java.util.regex.Pattern;

/**
 * The document once more, word by word and without a thought for speed, for OracleTest:
 * it shares nothing with DoorSchool but the names of the calls.
 */
final class Naive {
    /** Told once for all objects: what FEWEST is by a way, for deeds, with so many signs. */
    private static final Map<String, List<Integer>> TEACHING = new HashMap<>();
    private static final Map<Integer, List<Rule>> RULES = new HashMap<>();

    private static final class Fault extends RuntimeException {
        final int what;
        final int place;

        Fault(int what, int place) {
            this.what = what;
            this.place = place;
        }
    }

    private record Token(String text, int place) {
    }

    private record Said(int knock, boolean open) {
    }

    private record Rule(int m, int v) {
        boolean opensTo(int knock) {
            return (knock & m) == v;
        }
    }

    private static final class Door {
        int way;
        int slips;
        int copies = -1;
        List<Said> lessons = new ArrayList<>();
    }

    private static final class School {
        int signs;
        int teachers;
        int lines;
        List<Door> doors = new ArrayList<>();
        List<Said> exams = new ArrayList<>();
        Rule owner = new Rule(0, 0);
        List<Rule> houses = new ArrayList<>();
        List<Integer> courses = new ArrayList<>();
        List<int[]> ahead = new ArrayList<>();
        List<Integer> taught = new ArrayList<>();

        School copied() {
            School s = new School();
            s.signs = signs;
            s.teachers = teachers;
            s.lines = lines;
            for (Door d : doors) {
                Door other = new Door();
                other.way = d.way;
                other.slips = d.slips;
                other.copies = d.copies;
                other.lessons.addAll(d.lessons);
                s.doors.add(other);
            }
            s.exams.addAll(exams);
            s.owner = owner;
            s.houses.addAll(houses);
            s.courses.addAll(courses);
            s.ahead.addAll(ahead);
            s.taught.addAll(taught);
            return s;
        }
    }

    private StringBuilder tape = new StringBuilder();
    private School s;
    private int fault;
    private int place = -1;
    private final School[] images = new School[3];
    private final boolean[] imaged = new boolean[3];
    private final long[][] rows = new long[4][];
    private final int[] widths = new int[4];

    // ---- tape ----

    int feed(int a, int b, int c, int d, int e) {
        if (tape.length() + 20 > 1600) {
            return -1;
        }
        for (int n : new int[] {a, b, c, d, e}) {
            for (int i = 3; i >= 0; i--) {
                tape.append((char) (n >> 8 * i & 255));
            }
        }
        return tape.length();
    }

    int end(int n) {
        if (n < 0 || n > tape.length()) {
            return -1;
        }
        tape.setLength(n);
        return n;
    }

    int school() {
        String text = tape.toString();
        tape.setLength(0);
        try {
            School read = new Parsing(text).read();
            s = read.lines == 0 ? null : read;
            fault = 0;
            place = -1;
            return read.lines;
        } catch (Fault f) {
            fault = f.what;
            place = f.place;
            return -4;
        }
    }

    int fault(int what) {
        return what == 0 ? fault : what == 1 ? place : -1;
    }

    private static final class Parsing {
        final List<Token> tokens = new ArrayList<>();
        int at;
        School s = new School();

        Parsing(String text) {
            Matcher m = Pattern.compile("[a-z]+|[0-9]+|;|[^ \n]", Pattern.DOTALL).matcher(text);
            while (m.find()) {
                tokens.add(new Token(m.group(), m.start()));
            }
            tokens.add(new Token("", text.length()));
        }

        School read() {
            while (!peek().text.isEmpty()) {
                line();
                word(";");
                s.lines++;
            }
            return s;
        }

        Token peek() {
            return tokens.get(at);
        }

        String word(String... those) {
            for (String one : those) {
                if (peek().text.equals(one)) {
                    at++;
                    return one;
                }
            }
            throw new Fault(1, peek().place);
        }

        int number(IntPredicate good) {
            Token t = peek();
            if (!t.text.matches("[0-9]+")) {
                throw new Fault(1, t.place);
            }
            String digits = t.text.replaceFirst("^0+(?=.)", "");
            if (digits.length() > 4 || !good.test(Integer.parseInt(digits))) {
                throw new Fault(2, t.place);
            }
            at++;
            return Integer.parseInt(digits);
        }

        int number(int low, int high) {
            return number(n -> n >= low && n <= high);
        }

        void room(boolean there, int back) {
            if (!there) {
                throw new Fault(3, tokens.get(at - back).place);
            }
        }

        void line() {
            if (s.lines == 0) {
                word("school");
                word("signs");
                s.signs = number(2, 4);
                word("teachers");
                s.teachers = number(1, 3);
                return;
            }
            int top = (1 << s.signs) - 1;
            switch (word("door", "lesson", "exam", "twin", "owner", "house", "course", "ahead")) {
                case "door" -> {
                    room(s.doors.size() < 4, 1);
                    Door d = new Door();
                    d.way = List.of("heart", "shortest", "nearest").indexOf(word("heart", "shortest", "nearest"));
                    word("slips");
                    d.slips = number(0, 50);
                    s.doors.add(d);
                }
                case "lesson" -> {
                    Door d = s.doors.get(number(n -> n < s.doors.size()));
                    room(d.lessons.size() < 12, 1);
                    d.lessons.add(new Said(number(0, top), word("open", "shut").equals("open")));
                }
                case "exam" -> {
                    room(s.exams.size() < 12, 1);
                    s.exams.add(new Said(number(0, top), word("open", "shut").equals("open")));
                }
                case "twin" -> {
                    int one = number(n -> n < s.doors.size() && s.doors.get(n).copies == -1
                            && s.doors.stream().noneMatch(d -> d.copies == n));
                    int other = number(n -> n < s.doors.size() && n != one && s.doors.get(n).copies == -1);
                    s.doors.get(one).copies = other;
                }
                case "owner" -> s.owner = rule(top);
                case "house" -> {
                    room(s.houses.size() < 4, 1);
                    s.houses.add(rule(top));
                }
                case "course" -> {
                    room(s.courses.size() < 6, 1);
                    word("takes");
                    s.courses.add(number(1, 9));
                }
                default -> {
                    int one = number(n -> n < s.courses.size());
                    int other = number(n -> n < s.courses.size() && n > one);
                    s.ahead.add(new int[] {one, other});
                }
            }
        }

        Rule rule(int top) {
            int m = number(0, top);
            return new Rule(m, number(v -> (v | m) == m));
        }
    }

    // ---- terms ----

    private boolean noDoor(int d) {
        return s == null || d < 0 || d >= s.doors.size();
    }

    private boolean noHouse(int h) {
        return s == null || h < 0 || h >= s.houses.size();
    }

    private int knocks() {
        return s == null ? 0 : (int) Math.pow(2, s.signs);
    }

    private boolean noKnock(int k) {
        return k < 0 || k >= knocks();
    }

    private boolean noDeeds(int deeds) {
        return s == null || deeds < 0 || deeds >= (int) Math.pow(2, knocks());
    }

    private List<Rule> allRules() {
        return s == null ? List.of() : RULES.computeIfAbsent(s.signs, signs -> sortedRules());
    }

    private List<Rule> sortedRules() {
        List<Rule> all = new ArrayList<>();
        for (int m = 0; m < knocks(); m++) {
            for (int v = 0; v < knocks(); v++) {
                if ((v | m) == m) {
                    all.add(new Rule(m, v));
                }
            }
        }
        all.sort((a, b) -> {
            int few = Integer.compare(Integer.bitCount(a.m), Integer.bitCount(b.m));
            int lesser = Integer.compare(a.m, b.m);
            return few != 0 ? few : lesser != 0 ? lesser : Integer.compare(a.v, b.v);
        });
        return all;
    }

    private List<Rule> fitting(List<Said> said) {
        List<Rule> all = new ArrayList<>();
        for (Rule r : allRules()) {
            if (said.stream().allMatch(x -> r.opensTo(x.knock) == x.open)) {
                all.add(r);
            }
        }
        return all;
    }

    private int deedsOf(IntPredicate opens) {
        int deeds = 0;
        for (int k = 0; k < knocks(); k++) {
            if (opens.test(k)) {
                deeds += 1 << k;
            }
        }
        return deeds;
    }

    private int deedsOf(Rule r) {
        return deedsOf(r::opensTo);
    }

    private static int unlike(int a, int b) {
        int n = 0;
        for (int i = 0; i < 16; i++) {
            n += (a >> i) % 2 == (b >> i) % 2 ? 0 : 1;
        }
        return n;
    }

    private int lessonFor(int way, List<Said> lessons, int knock) {
        int found = -1;
        for (int i = 0; i < lessons.size(); i++) {
            Said x = lessons.get(i);
            if (way == 0 && x.knock == knock) {
                found = i;
            }
            if (way == 2 && (found == -1 || unlike(x.knock, knock) < unlike(lessons.get(found).knock, knock))) {
                found = i;
            }
        }
        return found;
    }

    private int learn(int way, List<Said> lessons) {
        if (way == 1) {
            List<Rule> fit = fitting(lessons);
            return fit.isEmpty() ? 0 : deedsOf(fit.get(0));
        }
        return deedsOf(k -> {
            int i = lessonFor(way, lessons, k);
            return i >= 0 && lessons.get(i).open;
        });
    }

    private Door model(int d) {
        Door door = s.doors.get(d);
        return door.copies == -1 ? door : s.doors.get(door.copies);
    }

    private int done(int d) {
        return learn(model(d).way, model(d).lessons);
    }

    private List<Said> of(int set, int deeds) {
        List<Said> lessons = new ArrayList<>();
        for (int k = 0; k < 16; k++) {
            if ((set >> k & 1) == 1) {
                lessons.add(new Said(k, (deeds >> k & 1) == 1));
            }
        }
        return lessons;
    }

    private List<Integer> teaching(int way, int deeds) {
        return TEACHING.computeIfAbsent(s.signs + " " + way + " " + deeds, key -> {
            List<Integer> all = new ArrayList<>();
            for (int set = 0; set < 1 << knocks(); set++) {
                if (learn(way, of(set, deeds)) == deeds) {
                    all.add(set);
                }
            }
            return all;
        });
    }

    private <T> T with(int d, List<Said> lessons, BiFunction<Integer, Integer, T> then) {
        List<Said> kept = s.doors.get(d).lessons;
        s.doors.get(d).lessons = lessons;
        T answer = then.apply(d, done(d));
        s.doors.get(d).lessons = kept;
        return answer;
    }

    private List<Said> more(int d, int knock, boolean open) {
        List<Said> lessons = new ArrayList<>(s.doors.get(d).lessons);
        lessons.add(new Said(knock, open));
        return lessons;
    }

    private int marksOf(int deeds) {
        return (int) s.exams.stream().filter(x -> (deeds >> x.knock & 1) == 1 == x.open).count();
    }

    // ---- telling ----

    int door(int door, int what) {
        if (noDoor(door) || what < 0 || what > 3) {
            return -2;
        }
        Door d = s.doors.get(door);
        return List.of(d.way, d.slips, d.lessons.size(), d.copies).get(what);
    }

    int lesson(int door, int i, int what) {
        if (noDoor(door) || what < 0 || what > 1) {
            return -2;
        }
        List<Said> own = s.doors.get(door).lessons;
        if (i < 0 || i >= own.size()) {
            return -1;
        }
        return what == 0 ? own.get(i).knock : own.get(i).open ? 1 : 0;
    }

    int exam(int exam, int what) {
        if (s == null || exam < 0 || exam >= s.exams.size() || what < 0 || what > 1) {
            return -2;
        }
        return what == 0 ? s.exams.get(exam).knock : s.exams.get(exam).open ? 1 : 0;
    }

    int house(int house, int what) {
        if (s == null || house != -1 && noHouse(house) || what < 0 || what > 2) {
            return -2;
        }
        Rule r = house == -1 ? s.owner : s.houses.get(house);
        return what == 0 ? r.m : what == 1 ? r.v : Integer.bitCount(deedsOf(r));
    }

    int opens(int door, int knock) {
        return noDoor(door) || noKnock(knock) ? -2 : done(door) >> knock & 1;
    }

    int deeds(int door) {
        return noDoor(door) ? -2 : done(door);
    }

    int often(int door) {
        return noDoor(door) ? -2 : Integer.bitCount(done(door));
    }

    int why(int door, int knock) {
        return noDoor(door) || noKnock(knock) ? -2 : lessonFor(model(door).way, model(door).lessons, knock);
    }

    int rule(int door, int what) {
        if (noDoor(door) || what < 0 || what > 2) {
            return -2;
        }
        List<Rule> fit = fitting(s.doors.get(door).lessons);
        if (fit.isEmpty()) {
            return -1;
        }
        Rule r = fit.get(0);
        return List.of(r.m, r.v, allRules().indexOf(r)).get(what);
    }

    int rules(int door) {
        return noDoor(door) ? -2 : fitting(s.doors.get(door).lessons).size();
    }

    int does(int signs, int there) {
        return s == null || !allRules().contains(new Rule(signs, there)) ? -2 : deedsOf(new Rule(signs, there));
    }

    int told(int deeds, int what) {
        if (noDeeds(deeds) || what < 0 || what > 1) {
            return -2;
        }
        for (Rule r : allRules()) {
            if (deedsOf(r) == deeds) {
                return what == 0 ? r.m : r.v;
            }
        }
        return -1;
    }

    // ---- exams ----

    int marks(int door) {
        return noDoor(door) ? -2 : marksOf(done(door));
    }

    int wrong(int door) {
        if (noDoor(door)) {
            return -2;
        }
        for (Said x : s.exams) {
            if ((opens(door, x.knock) == 1) != x.open) {
                return s.exams.indexOf(x);
            }
        }
        return -1;
    }

    int best() {
        if (s == null) {
            return -2;
        }
        int found = -1;
        for (int d = s.doors.size() - 1; d >= 0; d--) {
            if (found == -1 || marks(d) >= marks(found)) {
                found = d;
            }
        }
        return found;
    }

    int hard() {
        if (s == null) {
            return -2;
        }
        int found = 0;
        for (int i = 0; i < s.exams.size(); i++) {
            boolean done = false;
            for (int d = 0; d < s.doors.size(); d++) {
                done |= opens(d, s.exams.get(i).knock) == 1 == s.exams.get(i).open;
            }
            found += done ? 0 : 1 << i;
        }
        return found;
    }

    int teach(int door, int knock, int open) {
        if (noDoor(door) || noKnock(knock) || open < 0 || open > 1) {
            return -2;
        }
        if (s.doors.get(door).lessons.size() == 12) {
            return -3;
        }
        if (s.taught.size() == 60) {
            return -5;
        }
        s.doors.get(door).lessons.add(new Said(knock, open == 1));
        s.taught.add(door);
        return s.doors.get(door).lessons.size();
    }

    int unteach() {
        if (s == null) {
            return -2;
        }
        if (s.taught.isEmpty()) {
            return -5;
        }
        int door = s.taught.remove(s.taught.size() - 1);
        List<Said> own = s.doors.get(door).lessons;
        own.remove(own.size() - 1);
        return door;
    }

    int gains(int door, int knock, int open) {
        if (noDoor(door) || noKnock(knock) || open < 0 || open > 1) {
            return -1000;
        }
        return with(door, more(door, knock, open == 1), (d, deeds) -> marksOf(deeds)) - marks(door);
    }

    int help(int door) {
        if (noDoor(door)) {
            return -2;
        }
        int found = -1;
        int most = 0;
        for (int k = 0; k < knocks(); k++) {
            for (int open = 0; open < 2; open++) {
                if (gains(door, k, open) > most) {
                    most = gains(door, k, open);
                    found = 2 * k + open;
                }
            }
        }
        return found;
    }

    int idle(int door) {
        if (noDoor(door)) {
            return -2;
        }
        int found = 0;
        for (int i = 0; i < s.doors.get(door).lessons.size(); i++) {
            List<Said> without = new ArrayList<>(s.doors.get(door).lessons);
            without.remove(i);
            int now = done(door);
            found += with(door, without, (d, deeds) -> deeds == now) ? 1 << i : 0;
        }
        return found;
    }

    // ---- fewest ----

    int fewest(int way, int deeds) {
        int set = course(way, deeds);
        return set < 0 ? set : Integer.bitCount(set);
    }

    int course(int way, int deeds) {
        if (way < 0 || way > 2 || noDeeds(deeds)) {
            return -2;
        }
        return teaching(way, deeds).stream()
                .min((a, b) -> Integer.bitCount(a) != Integer.bitCount(b)
                        ? Integer.compare(Integer.bitCount(a), Integer.bitCount(b)) : Integer.compare(a, b))
                .orElse(-1);
    }

    int sets(int way, int deeds, int n) {
        if (way < 0 || way > 2 || noDeeds(deeds) || n < 0 || n > 16) {
            return -2;
        }
        return (int) teaching(way, deeds).stream().filter(set -> Integer.bitCount(set) == n).count();
    }

    int easiest(int deeds) {
        if (noDeeds(deeds)) {
            return -2;
        }
        int found = -1;
        for (int way = 2; way >= 0; way--) {
            int n = fewest(way, deeds);
            if (n >= 0 && (found == -1 || n <= fewest(found, deeds))) {
                found = way;
            }
        }
        return found;
    }

    // ---- fooling ----

    private int outside(int deeds) {
        return deedsOf(k -> (deeds >> k & 1) == 1 && !s.owner.opensTo(k));
    }

    int fooled(int door, int what) {
        if (noDoor(door) || what < 0 || what > 1) {
            return -2;
        }
        return what == 0 ? outside(done(door)) : deedsOf(k -> opens(door, k) == 0 && s.owner.opensTo(k));
    }

    int tries(int door, int knock) {
        int other = trick(door, knock);
        return other < 0 ? other : unlike(other, knock);
    }

    int trick(int door, int knock) {
        if (noDoor(door) || noKnock(knock)) {
            return -2;
        }
        for (int n = 0; n <= s.signs; n++) {
            for (int k = 0; k < knocks(); k++) {
                if (unlike(k, knock) == n && opens(door, k) == 1) {
                    return k;
                }
            }
        }
        return -1;
    }

    private int leftBy(int door, int knock) {
        return with(door, more(door, knock, s.owner.opensTo(knock)), (d, deeds) -> Integer.bitCount(outside(deeds)));
    }

    int harden(int door) {
        if (noDoor(door)) {
            return -2;
        }
        int least = Integer.bitCount(fooled(door, 0));
        int found = -1;
        for (int k = 0; k < knocks(); k++) {
            if (leftBy(door, k) < least) {
                least = leftBy(door, k);
                found = k;
            }
        }
        return found;
    }

    int left(int door) {
        if (noDoor(door)) {
            return -2;
        }
        int knock = harden(door);
        return knock == -1 ? Integer.bitCount(fooled(door, 0)) : leftBy(door, knock);
    }

    // ---- game ----

    int game(int door, int way, int knock) {
        if (noDoor(door) || way < 0 || way > 2 || noKnock(knock) || s.owner.opensTo(knock)) {
            return -2;
        }
        return learn(way, s.doors.get(door).lessons) >> knock & 1;
    }

    private List<Integer> allRests(int door) {
        List<Integer> all = new ArrayList<>();
        for (int way = 0; way < 3; way++) {
            for (int k = 0; k < knocks(); k++) {
                int gain = game(door, way, k);
                boolean rest = gain != -2;
                for (int other = 0; other < knocks(); other++) {
                    rest &= game(door, way, other) <= gain;
                }
                for (int other = 0; other < 3; other++) {
                    rest &= game(door, other, k) >= gain;
                }
                if (rest) {
                    all.add(100 * way + k);
                }
            }
        }
        return all;
    }

    int rests(int door) {
        return noDoor(door) ? -2 : allRests(door).size();
    }

    int rest(int door) {
        return noDoor(door) ? -2 : allRests(door).isEmpty() ? -1 : allRests(door).get(0);
    }

    int way(int door, int what) {
        if (noDoor(door) || what < 0 || what > 1) {
            return -2;
        }
        int[] not = new int[3];
        for (int way = 0; way < 3; way++) {
            not[way] = unlike(learn(way, s.doors.get(door).lessons), deedsOf(s.owner));
        }
        int least = Math.min(not[0], Math.min(not[1], not[2]));
        return what == 1 ? least : not[0] == least ? 0 : not[1] == least ? 1 : 2;
    }

    int errors(int way, int knocks) {
        if (way < 0 || way > 2 || noDeeds(knocks)) {
            return -2;
        }
        return allRules().stream().mapToInt(r -> unlike(learn(way, of(knocks, deedsOf(r))), deedsOf(r))).sum();
    }

    int learnt(int way, int knocks) {
        if (way < 0 || way > 2 || noDeeds(knocks)) {
            return -2;
        }
        return (int) allRules().stream().filter(r -> learn(way, of(knocks, deedsOf(r))) == deedsOf(r)).count();
    }

    int next(int way, int knocks) {
        if (way < 0 || way > 2 || noDeeds(knocks)) {
            return -2;
        }
        int found = -1;
        for (int k = knocks() - 1; k >= 0; k--) {
            if ((knocks >> k & 1) == 0
                    && (found == -1 || errors(way, knocks + (1 << k)) <= errors(way, knocks + (1 << found)))) {
                found = k;
            }
        }
        return found;
    }

    // ---- rows of knocks ----

    private int trouble(int slot) {
        if (slot < 0 || slot > 3 || s == null) {
            return -2;
        }
        if (rows[slot] == null) {
            return -6;
        }
        if (rows[slot].length % 2 == 1) {
            return -2;
        }
        for (int i = 0; i < rows[slot].length; i++) {
            if (rows[slot][i] < 0 || rows[slot][i] >= (i % 2 == 0 ? knocks() : 2)) {
                return -2;
            }
        }
        return 0;
    }

    private List<Said> said(int slot) {
        List<Said> all = new ArrayList<>();
        for (int i = 0; i < rows[slot].length; i += 2) {
            all.add(new Said((int) rows[slot][i], rows[slot][i + 1] == 1));
        }
        return all;
    }

    int same(int slot) {
        if (trouble(slot) != 0) {
            return trouble(slot);
        }
        int found = 0;
        for (int d = 0; d < s.doors.size(); d++) {
            int door = d;
            if (said(slot).stream().allMatch(x -> opens(door, x.knock) == 1 == x.open)) {
                found += 1 << d;
            }
        }
        return found;
    }

    int alike(int door) {
        if (noDoor(door)) {
            return -2;
        }
        int found = 0;
        for (int d = 0; d < s.doors.size(); d++) {
            found += d != door && done(d) == done(door) ? 1 << d : 0;
        }
        return found;
    }

    int copy(int door, int other) {
        if (noDoor(door) || other != -1 && noDoor(other) || door == other) {
            return -2;
        }
        boolean otherCopies = other != -1 && s.doors.get(other).copies != -1;
        boolean itIsCopied = s.doors.stream().anyMatch(d -> d.copies == door);
        if (otherCopies || itIsCopied) {
            return -5;
        }
        int before = s.doors.get(door).copies;
        s.doors.get(door).copies = other;
        return before;
    }

    // ---- hanging ----

    private List<List<Integer>> hangings(int n) {
        List<List<Integer>> all = new ArrayList<>();
        if (n == 0) {
            all.add(List.of());
            return all;
        }
        for (List<Integer> before : hangings(n - 1)) {
            for (int d = 0; d < s.doors.size(); d++) {
                if (!before.contains(d)) {
                    List<Integer> row = new ArrayList<>(before);
                    row.add(d);
                    all.add(row);
                }
            }
        }
        return all;
    }

    private int amissIn(List<Integer> row) {
        int sum = 0;
        for (int h = 0; h < row.size(); h++) {
            sum += amiss(row.get(h), h);
        }
        return sum;
    }

    private List<Integer> firstHanging() {
        List<Integer> found = null;
        for (List<Integer> row : hangings(s.houses.size())) {
            if (found == null || amissIn(row) < amissIn(found)) {
                found = row;
            }
        }
        return found;
    }

    int hanging() {
        return s == null ? -2 : firstHanging() == null ? -1 : amissIn(firstHanging());
    }

    int hung(int house) {
        return noHouse(house) ? -2 : firstHanging() == null ? -1 : firstHanging().get(house);
    }

    int amiss(int door, int house) {
        return noDoor(door) || noHouse(house) ? -2 : unlike(done(door), deedsOf(s.houses.get(house)));
    }

    // ---- reading ----

    int fits(int slot) {
        return trouble(slot) != 0 ? trouble(slot) : fitting(said(slot)).size();
    }

    int sure(int slot, int what) {
        if (what < 0 || what > 1) {
            return -2;
        }
        if (trouble(slot) != 0) {
            return trouble(slot);
        }
        List<Rule> fit = fitting(said(slot));
        return deedsOf(k -> fit.stream().allMatch(r -> r.opensTo(k) == (what == 0)));
    }

    private int worst(int slot, int knock) {
        List<Rule> fit = fitting(said(slot));
        int opening = (int) fit.stream().filter(r -> r.opensTo(knock)).count();
        return Math.max(opening, fit.size() - opening);
    }

    int ask(int slot) {
        if (trouble(slot) != 0) {
            return trouble(slot);
        }
        int least = fits(slot);
        int found = -1;
        for (int k = 0; k < knocks(); k++) {
            if (worst(slot, k) < least) {
                least = worst(slot, k);
                found = k;
            }
        }
        return found;
    }

    int leaves(int slot) {
        if (trouble(slot) != 0) {
            return trouble(slot);
        }
        return ask(slot) == -1 ? fits(slot) : worst(slot, ask(slot));
    }

    // ---- courses ----

    /** Tries every hour for every course, course by course: the first table that holds is the first of all. */
    private boolean table(int[] begin, int course, int all, int teachers) {
        if (course == begin.length) {
            return true;
        }
        for (int hour = 0; hour + s.courses.get(course) <= all; hour++) {
            begin[course] = hour;
            if (holds(begin, course, teachers) && table(begin, course + 1, all, teachers)) {
                return true;
            }
        }
        return false;
    }

    private boolean holds(int[] begin, int last, int teachers) {
        for (int[] a : s.ahead) {
            if (a[1] == last && begin[a[0]] + s.courses.get(a[0]) > begin[last]) {
                return false;
            }
        }
        for (int hour = begin[last]; hour < begin[last] + s.courses.get(last); hour++) {
            int busy = 0;
            for (int c = 0; c <= last; c++) {
                busy += begin[c] <= hour && hour < begin[c] + s.courses.get(c) ? 1 : 0;
            }
            if (busy > teachers) {
                return false;
            }
        }
        return true;
    }

    private int[] firstTable(int teachers) {
        int[] begin = new int[s.courses.size() + 1];
        int work = s.courses.stream().mapToInt(h -> h).sum();
        for (int all = work / teachers; ; all++) {
            int[] found = new int[s.courses.size()];
            if (table(found, 0, all, teachers)) {
                System.arraycopy(found, 0, begin, 1, found.length);
                begin[0] = all;
                return begin;
            }
        }
    }

    int hours() {
        return s == null ? -2 : firstTable(s.teachers)[0];
    }

    int begins(int course) {
        return s == null || course < 0 || course >= s.courses.size() ? -2 : firstTable(s.teachers)[course + 1];
    }

    int teacher() {
        return s == null ? -2 : firstTable(s.teachers)[0] - firstTable(s.teachers + 1)[0];
    }

    // ---- changes ----

    int train(int door, int what, int n) {
        if (noDoor(door) || what < 0 || what > 1 || n < 0 || n > (what == 0 ? 2 : 50)) {
            return -2;
        }
        Door d = s.doors.get(door);
        int before = what == 0 ? d.way : d.slips;
        if (what == 0) {
            d.way = n;
        } else {
            d.slips = n;
        }
        return before;
    }

    int owns(int signs, int there) {
        if (s == null || !allRules().contains(new Rule(signs, there))) {
            return -2;
        }
        int before = deedsOf(s.owner);
        s.owner = new Rule(signs, there);
        return before;
    }

    private int inStorm(int seed, int door) {
        java.math.BigInteger x = java.math.BigInteger.valueOf(seed);
        boolean[] slipped = new boolean[knocks()];
        for (int k = 0; k < knocks(); k++) {
            x = x.multiply(java.math.BigInteger.valueOf(1103515245)).add(java.math.BigInteger.valueOf(12345))
                    .mod(java.math.BigInteger.valueOf(2147483648L));
            slipped[k] = x.intValueExact() / 65536 % 100 < s.doors.get(door).slips;
        }
        return deedsOf(k -> opens(door, k) == 1 != slipped[k]);
    }

    int storm(int seed, int door, int what) {
        if (seed < 0 || seed > 2000000000 || noDoor(door) || what < 0 || what > 2) {
            return -2;
        }
        int deeds = inStorm(seed, door);
        return what == 0 ? deeds : what == 1 ? marksOf(deeds) : unlike(deeds, done(door));
    }

    int years(int seed, int n, int door, int marks) {
        if (seed < 0 || seed > 2000000000 || n < 1 || n > 20 || noDoor(door)) {
            return -2;
        }
        int found = 0;
        for (int i = 0; i < n; i++) {
            found += marksOf(inStorm(seed + i, door)) >= marks ? 1 : 0;
        }
        return found;
    }

    // ---- counts, images, slots ----

    int count(int what) {
        School t = s == null ? new School() : s;
        int full = 0;
        for (long[] row : rows) {
            full += row == null ? 0 : 1;
        }
        List<Integer> all = List.of(t.signs, t.teachers, t.doors.size(), t.exams.size(), t.houses.size(),
                t.courses.size(), t.taught.size(), t.lines, tape.length(), full);
        return what < 0 || what > 9 ? -1 : all.get(what);
    }

    int image(int k) {
        if (k < 0 || k > 2) {
            return -2;
        }
        images[k] = s == null ? null : s.copied();
        imaged[k] = true;
        return 0;
    }

    int back(int k) {
        if (k < 0 || k > 2) {
            return -2;
        }
        if (!imaged[k]) {
            return -6;
        }
        s = images[k] == null ? null : images[k].copied();
        return 0;
    }

    int row(int slot, int width, int n) {
        if (slot < 0 || slot > 3 || width < 0 || width > 3 || n > 60) {
            return -2;
        }
        if (n < 0) {
            return -3;
        }
        rows[slot] = new long[n];
        widths[slot] = width;
        return 0;
    }

    int write(int slot, int i, long v) {
        if (slot < 0 || slot > 3) {
            return -2;
        }
        if (rows[slot] == null) {
            return -6;
        }
        if (i < 0 || i >= rows[slot].length) {
            return -7;
        }
        rows[slot][i] = switch (widths[slot]) {
            case 0 -> (byte) v;
            case 1 -> (short) v;
            case 2 -> (int) v;
            default -> v;
        };
        return 0;
    }

    int paste(int slot, int i, int to, int k, int n) {
        if (slot < 0 || slot > 3 || to < 0 || to > 3) {
            return -2;
        }
        if (rows[slot] == null || rows[to] == null) {
            return -6;
        }
        if (widths[slot] != widths[to]) {
            return -8;
        }
        if (n < 0 || i < 0 || k < 0 || (long) i + n > rows[slot].length || (long) k + n > rows[to].length) {
            return -7;
        }
        long[] were = rows[slot].clone();
        for (int j = 0; j < n; j++) {
            rows[to][k + j] = were[i + j];
        }
        return 0;
    }
}
