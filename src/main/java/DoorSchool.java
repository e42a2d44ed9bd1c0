import java.util.Arrays;

/** A school for doors, told as a text; README.md says how to use it. */
public final class DoorSchool {
    public static final int NONE = -1;

    private static final int NO_SUCH = -2;
    private static final int TOO_MANY = -3;
    private static final int FAULTY = -4;
    private static final int REFUSED = -5;
    private static final int NOTHING = -6;
    private static final int NO_NUMBER = -7;
    private static final int UNLIKE_WIDTHS = -8;
    private static final int NO_GAIN = -1000;

    private static final int HEART = 0;
    private static final int SHORTEST = 1;
    private static final int NEAREST = 2;
    private static final int WAYS = 3;

    private static final int MOST_BYTES = 1600;
    private static final int FED_AT_ONCE = 20;
    private static final int MOST_SIGNS = 4;
    private static final int MOST_KNOCKS = 16;
    private static final int MOST_RULES = 81;
    private static final int MOST_TEACHERS = 3;
    private static final int MOST_DOORS = 4;
    private static final int MOST_SLIPS = 50;
    private static final int MOST_LESSONS = 12;
    private static final int MOST_EXAMS = 12;
    private static final int MOST_HOUSES = 4;
    private static final int MOST_COURSES = 6;
    private static final int MOST_COURSE_HOURS = 9;
    private static final int MOST_TAUGHT = 60;
    private static final int MOST_SEED = 2000000000;
    private static final int MOST_YEARS = 20;
    private static final int IMAGES = 3;
    private static final int SLOTS = 4;
    private static final int WIDTHS = 4;
    private static final int MOST_NUMBERS = 60;

    private final Tape tape;
    private final Reader reader;
    private final Rules rules;
    private final Learner learner;
    private final Hanging hanging;
    private final Timetable timetable;
    private final Slot[] slots;
    private final Plan[] images;
    private final boolean[] imaged;
    private Plan plan;
    /** What school() reads into, so that a FAULT leaves the SCHOOL as it is. */
    private Plan spare;

    public DoorSchool() {
        tape = new Tape();
        reader = new Reader(tape);
        rules = new Rules();
        learner = new Learner(rules);
        hanging = new Hanging();
        timetable = new Timetable();
        plan = new Plan();
        spare = new Plan();
        images = new Plan[IMAGES];
        imaged = new boolean[IMAGES];
        for (int k = 0; k < IMAGES; k++) {
            images[k] = new Plan();
        }
        slots = new Slot[SLOTS];
        for (int slot = 0; slot < SLOTS; slot++) {
            slots[slot] = new Slot();
        }
    }

    // ---- the tape and the school ----

    public int feed(int a, int b, int c, int d, int e) {
        if (tape.size + FED_AT_ONCE > MOST_BYTES) {
            return NONE;
        }
        tape.append(a);
        tape.append(b);
        tape.append(c);
        tape.append(d);
        tape.append(e);
        return tape.size;
    }

    public int end(int n) {
        if (n < 0 || n > tape.size) {
            return NONE;
        }
        tape.size = n;
        return n;
    }

    public int school() {
        reader.read(spare);
        tape.size = 0;
        if (reader.fault != 0) {
            return FAULTY;
        }
        Plan old = plan;
        plan = spare;
        spare = old;
        rules.prepare(plan.signs);
        return plan.lines;
    }

    public int fault(int what) {
        if (what == 0) {
            return reader.fault;
        }
        return what == 1 ? reader.place : NONE;
    }

    // ---- what the school tells ----

    public int door(int door, int what) {
        if (!plan.isDoor(door)) {
            return NO_SUCH;
        }
        Door told = plan.doors[door];
        switch (what) {
            case 0: return told.way;
            case 1: return told.slips;
            case 2: return told.lessons.size;
            case 3: return told.copies;
            default: return NO_SUCH;
        }
    }

    public int lesson(int door, int i, int what) {
        if (!plan.isDoor(door) || !isZeroOrOne(what)) {
            return NO_SUCH;
        }
        Lessons own = plan.doors[door].lessons;
        if (i < 0 || i >= own.size) {
            return NONE;
        }
        return what == 0 ? own.knocks[i] : own.opens[i];
    }

    public int exam(int exam, int what) {
        if (exam < 0 || exam >= plan.exams.size || !isZeroOrOne(what)) {
            return NO_SUCH;
        }
        return what == 0 ? plan.exams.knocks[exam] : plan.exams.opens[exam];
    }

    public int house(int house, int what) {
        if (!plan.exists() || house != NONE && !plan.isHouse(house)) {
            return NO_SUCH;
        }
        int signs = house == NONE ? plan.ownerSigns : plan.houseSigns[house];
        int there = house == NONE ? plan.ownerThere : plan.houseThere[house];
        switch (what) {
            case 0: return signs;
            case 1: return there;
            case 2: return Integer.bitCount(rules.deedsOf(signs, there));
            default: return NO_SUCH;
        }
    }

    // ---- what a door does, and why ----

    public int opens(int door, int knock) {
        if (!plan.isDoor(door) || !plan.isKnock(knock)) {
            return NO_SUCH;
        }
        return bit(doneBy(door), knock);
    }

    public int deeds(int door) {
        return plan.isDoor(door) ? doneBy(door) : NO_SUCH;
    }

    public int often(int door) {
        return plan.isDoor(door) ? Integer.bitCount(doneBy(door)) : NO_SUCH;
    }

    public int why(int door, int knock) {
        if (!plan.isDoor(door) || !plan.isKnock(knock)) {
            return NO_SUCH;
        }
        Door model = plan.modelOf(door);
        switch (model.way) {
            case HEART: return model.lessons.latestOf(knock);
            case NEAREST: return model.lessons.nearestTo(knock);
            default: return NONE;
        }
    }

    public int rule(int door, int what) {
        if (!plan.isDoor(door) || what < 0 || what > 2) {
            return NO_SUCH;
        }
        Lessons own = plan.doors[door].lessons;
        int found = rules.first(own.said(1), own.said(0));
        if (found == NONE || what == 2) {
            return found;
        }
        return what == 0 ? rules.signs[found] : rules.there[found];
    }

    public int rules(int door) {
        if (!plan.isDoor(door)) {
            return NO_SUCH;
        }
        Lessons own = plan.doors[door].lessons;
        return rules.howMany(own.said(1), own.said(0));
    }

    public int does(int signs, int there) {
        return plan.isRule(signs, there) ? rules.deedsOf(signs, there) : NO_SUCH;
    }

    public int told(int deeds, int what) {
        if (!plan.isDeeds(deeds) || !isZeroOrOne(what)) {
            return NO_SUCH;
        }
        int found = rules.placeOf(deeds);
        if (found == NONE) {
            return NONE;
        }
        return what == 0 ? rules.signs[found] : rules.there[found];
    }

    // ---- exams, lessons more and lessons taken back ----

    public int marks(int door) {
        return plan.isDoor(door) ? marksFor(doneBy(door)) : NO_SUCH;
    }

    public int wrong(int door) {
        return plan.isDoor(door) ? plan.exams.firstNotAs(doneBy(door)) : NO_SUCH;
    }

    public int best() {
        if (!plan.exists()) {
            return NO_SUCH;
        }
        int found = NONE;
        int most = NONE;
        for (int door = 0; door < plan.doorCount; door++) {
            int marks = marksFor(doneBy(door));
            if (marks > most) {
                most = marks;
                found = door;
            }
        }
        return found;
    }

    public int hard() {
        if (!plan.exists()) {
            return NO_SUCH;
        }
        int unsolved = (1 << plan.exams.size) - 1;
        for (int door = 0; door < plan.doorCount; door++) {
            unsolved &= ~plan.exams.allAs(doneBy(door));
        }
        return unsolved;
    }

    public int teach(int door, int knock, int open) {
        if (!isLesson(door, knock, open)) {
            return NO_SUCH;
        }
        Lessons own = plan.doors[door].lessons;
        if (own.size >= MOST_LESSONS) {
            return TOO_MANY;
        }
        if (plan.taught >= MOST_TAUGHT) {
            return REFUSED;
        }
        own.add(knock, open);
        plan.taughtDoors[plan.taught] = door;
        plan.taught++;
        return own.size;
    }

    public int unteach() {
        if (!plan.exists()) {
            return NO_SUCH;
        }
        if (plan.taught <= 0) {
            return REFUSED;
        }
        plan.taught--;
        int door = plan.taughtDoors[plan.taught];
        plan.doors[door].lessons.dropLast();
        return door;
    }

    public int gains(int door, int knock, int open) {
        return isLesson(door, knock, open) ? gainOf(door, knock, open) : NO_GAIN;
    }

    public int help(int door) {
        if (!plan.isDoor(door)) {
            return NO_SUCH;
        }
        int found = NONE;
        int most = 0;
        for (int said = 0; said < 2 * plan.knocks(); said++) {
            int gain = gainOf(door, said / 2, said % 2);
            if (gain > most) {
                most = gain;
                found = said;
            }
        }
        return found;
    }

    public int idle(int door) {
        if (!plan.isDoor(door)) {
            return NO_SUCH;
        }
        Lessons own = plan.doors[door].lessons;
        int now = doneBy(door);
        int lessons = own.size;
        int found = 0;
        for (int i = 0; i < lessons; i++) {
            int knock = own.knocks[i];
            int open = own.opens[i];
            own.takeOut(i);
            if (doneBy(door) == now) {
                found |= 1 << i;
            }
            own.putIn(i, knock, open);
        }
        return found;
    }

    // ---- fewest lessons ----

    public int fewest(int way, int deeds) {
        if (!isWay(way) || !plan.isDeeds(deeds)) {
            return NO_SUCH;
        }
        int set = learner.leastSet(way, deeds);
        return set == NONE ? NONE : Integer.bitCount(set);
    }

    public int course(int way, int deeds) {
        return isWay(way) && plan.isDeeds(deeds) ? learner.leastSet(way, deeds) : NO_SUCH;
    }

    public int sets(int way, int deeds, int n) {
        if (!isWay(way) || !plan.isDeeds(deeds) || n < 0 || n > MOST_KNOCKS) {
            return NO_SUCH;
        }
        return learner.setsOf(way, deeds, n);
    }

    public int easiest(int deeds) {
        if (!plan.isDeeds(deeds)) {
            return NO_SUCH;
        }
        int found = NONE;
        int least = MOST_KNOCKS + 1;
        for (int way = 0; way < WAYS; way++) {
            int set = learner.leastSet(way, deeds);
            if (set != NONE && Integer.bitCount(set) < least) {
                least = Integer.bitCount(set);
                found = way;
            }
        }
        return found;
    }

    // ---- who fools a door, and lessons against that ----

    public int fooled(int door, int what) {
        if (!plan.isDoor(door) || !isZeroOrOne(what)) {
            return NO_SUCH;
        }
        return what == 0 ? fooling(door) : ownerDeeds() & ~doneBy(door);
    }

    public int tries(int door, int knock) {
        int found = trick(door, knock);
        return found < 0 ? found : Integer.bitCount(found ^ knock);
    }

    public int trick(int door, int knock) {
        if (!plan.isDoor(door) || !plan.isKnock(knock)) {
            return NO_SUCH;
        }
        int deeds = doneBy(door);
        int found = NONE;
        int least = MOST_SIGNS + 1;
        for (int other = 0; other < plan.knocks(); other++) {
            int changed = Integer.bitCount(other ^ knock);
            if (bit(deeds, other) == 1 && changed < least) {
                least = changed;
                found = other;
            }
        }
        return found;
    }

    public int harden(int door) {
        if (!plan.isDoor(door)) {
            return NO_SUCH;
        }
        int found = NONE;
        int least = Integer.bitCount(fooling(door));
        for (int knock = 0; knock < plan.knocks(); knock++) {
            int fooling = foolingAfter(door, knock);
            if (fooling < least) {
                least = fooling;
                found = knock;
            }
        }
        return found;
    }

    public int left(int door) {
        int knock = harden(door);
        if (knock == NO_SUCH) {
            return NO_SUCH;
        }
        return knock == NONE ? Integer.bitCount(fooling(door)) : foolingAfter(door, knock);
    }

    // ---- ways of learning against one another ----

    public int game(int door, int way, int knock) {
        if (!plan.isDoor(door) || !isWay(way) || !plan.isKnock(knock)) {
            return NO_SUCH;
        }
        if (bit(ownerDeeds(), knock) == 1) {
            return NO_SUCH;
        }
        return bit(stolenBy(door, way), knock);
    }

    public int rests(int door) {
        if (!plan.isDoor(door)) {
            return NO_SUCH;
        }
        int found = 0;
        for (int way = 0; way < WAYS; way++) {
            for (int knock = 0; knock < plan.knocks(); knock++) {
                if (isRest(door, way, knock)) {
                    found++;
                }
            }
        }
        return found;
    }

    public int rest(int door) {
        if (!plan.isDoor(door)) {
            return NO_SUCH;
        }
        for (int way = 0; way < WAYS; way++) {
            for (int knock = 0; knock < plan.knocks(); knock++) {
                if (isRest(door, way, knock)) {
                    return 100 * way + knock;
                }
            }
        }
        return NONE;
    }

    public int way(int door, int what) {
        if (!plan.isDoor(door) || !isZeroOrOne(what)) {
            return NO_SUCH;
        }
        int found = NONE;
        int least = MOST_KNOCKS + 1;
        for (int way = 0; way < WAYS; way++) {
            int amiss = Integer.bitCount(wouldDo(door, way) ^ ownerDeeds());
            if (amiss < least) {
                least = amiss;
                found = way;
            }
        }
        return what == 0 ? found : least;
    }

    public int errors(int way, int knocks) {
        return isWay(way) && plan.isDeeds(knocks) ? learner.errorsBy(way, knocks) : NO_SUCH;
    }

    public int learnt(int way, int knocks) {
        return isWay(way) && plan.isDeeds(knocks) ? learner.learntWhole(way, knocks) : NO_SUCH;
    }

    public int next(int way, int knocks) {
        if (!isWay(way) || !plan.isDeeds(knocks)) {
            return NO_SUCH;
        }
        int found = NONE;
        int least = MOST_RULES * MOST_KNOCKS + 1;
        for (int knock = 0; knock < plan.knocks(); knock++) {
            if (bit(knocks, knock) == 0) {
                int errors = learner.errorsBy(way, knocks | 1 << knock);
                if (errors < least) {
                    least = errors;
                    found = knock;
                }
            }
        }
        return found;
    }

    // ---- who copied whom ----

    public int same(int slot) {
        int trouble = troubleWith(slot);
        if (trouble != 0) {
            return trouble;
        }
        int open = slots[slot].said(1);
        int shut = slots[slot].said(0);
        int found = 0;
        for (int door = 0; door < plan.doorCount; door++) {
            if (agree(doneBy(door), open, shut)) {
                found |= 1 << door;
            }
        }
        return found;
    }

    public int alike(int door) {
        if (!plan.isDoor(door)) {
            return NO_SUCH;
        }
        int found = 0;
        for (int other = 0; other < plan.doorCount; other++) {
            if (other != door && doneBy(other) == doneBy(door)) {
                found |= 1 << other;
            }
        }
        return found;
    }

    public int copy(int door, int other) {
        if (!plan.isDoor(door) || other == door || other != NONE && !plan.isDoor(other)) {
            return NO_SUCH;
        }
        // The document says so of any DOOR that is copied, also of one that is to copy nobody.
        if (plan.isCopied(door) || other != NONE && plan.doors[other].copies != NONE) {
            return REFUSED;
        }
        int before = plan.doors[door].copies;
        plan.doors[door].copies = other;
        return before;
    }

    // ---- graduates hung ----

    public int hanging() {
        if (!plan.exists()) {
            return NO_SUCH;
        }
        return hangAll() ? hanging.fewest : NONE;
    }

    public int hung(int house) {
        if (!plan.isHouse(house)) {
            return NO_SUCH;
        }
        return hangAll() ? hanging.firstRow[house] : NONE;
    }

    public int amiss(int door, int house) {
        if (!plan.isDoor(door) || !plan.isHouse(house)) {
            return NO_SUCH;
        }
        return Integer.bitCount(doneBy(door) ^ houseDeeds(house));
    }

    // ---- rules that fit deeds ----

    public int fits(int slot) {
        int trouble = troubleWith(slot);
        return trouble != 0 ? trouble : rules.howMany(slots[slot].said(1), slots[slot].said(0));
    }

    public int sure(int slot, int what) {
        int trouble = isZeroOrOne(what) ? troubleWith(slot) : NO_SUCH;
        if (trouble != 0) {
            return trouble;
        }
        return rules.surely(slots[slot].said(1), slots[slot].said(0), what == 0);
    }

    public int ask(int slot) {
        int trouble = troubleWith(slot);
        return trouble != 0 ? trouble : askedOf(slots[slot]);
    }

    public int leaves(int slot) {
        int trouble = troubleWith(slot);
        if (trouble != 0) {
            return trouble;
        }
        int knock = askedOf(slots[slot]);
        return knock == NONE ? fits(slot) : leftAtWorst(slots[slot], knock);
    }

    // ---- courses by teachers ----

    public int hours() {
        return plan.exists() ? timetable.solve(plan, plan.teachers) : NO_SUCH;
    }

    public int begins(int course) {
        if (course < 0 || course >= plan.courseCount) {
            return NO_SUCH;
        }
        timetable.solve(plan, plan.teachers);
        return timetable.firstBegins[course];
    }

    public int teacher() {
        if (!plan.exists()) {
            return NO_SUCH;
        }
        return timetable.solve(plan, plan.teachers) - timetable.solve(plan, plan.teachers + 1);
    }

    // ---- what is changed from now on ----

    public int train(int door, int what, int n) {
        if (!plan.isDoor(door) || !isZeroOrOne(what)) {
            return NO_SUCH;
        }
        Door trained = plan.doors[door];
        if (what == 0) {
            if (!isWay(n)) {
                return NO_SUCH;
            }
            int before = trained.way;
            trained.way = n;
            return before;
        }
        if (n < 0 || n > MOST_SLIPS) {
            return NO_SUCH;
        }
        int before = trained.slips;
        trained.slips = n;
        return before;
    }

    public int owns(int signs, int there) {
        if (!plan.isRule(signs, there)) {
            return NO_SUCH;
        }
        int before = ownerDeeds();
        plan.ownerSigns = signs;
        plan.ownerThere = there;
        return before;
    }

    // ---- storms ----

    public int storm(int seed, int door, int what) {
        if (!isSeed(seed) || !plan.isDoor(door)) {
            return NO_SUCH;
        }
        int deeds = doneInStorm(seed, door);
        switch (what) {
            case 0: return deeds;
            case 1: return marksFor(deeds);
            case 2: return Integer.bitCount(deeds ^ doneBy(door));
            default: return NO_SUCH;
        }
    }

    public int years(int seed, int n, int door, int marks) {
        if (!isSeed(seed) || n < 1 || n > MOST_YEARS || !plan.isDoor(door)) {
            return NO_SUCH;
        }
        int found = 0;
        for (int year = 0; year < n; year++) {
            if (marksFor(doneInStorm(seed + year, door)) >= marks) {
                found++;
            }
        }
        return found;
    }

    // ---- counts, images, slots ----

    public int count(int what) {
        switch (what) {
            case 0: return plan.signs;
            case 1: return plan.teachers;
            case 2: return plan.doorCount;
            case 3: return plan.exams.size;
            case 4: return plan.houseCount;
            case 5: return plan.courseCount;
            case 6: return plan.taught;
            case 7: return plan.lines;
            case 8: return tape.size;
            case 9: return fullSlots();
            default: return NONE;
        }
    }

    public int image(int k) {
        if (k < 0 || k >= IMAGES) {
            return NO_SUCH;
        }
        images[k].takeFrom(plan);
        imaged[k] = true;
        return 0;
    }

    public int back(int k) {
        if (k < 0 || k >= IMAGES) {
            return NO_SUCH;
        }
        if (!imaged[k]) {
            return NOTHING;
        }
        plan.takeFrom(images[k]);
        rules.prepare(plan.signs);
        return 0;
    }

    public int row(int slot, int width, int n) {
        if (!isSlot(slot) || width < 0 || width >= WIDTHS || n > MOST_NUMBERS) {
            return NO_SUCH;
        }
        if (n < 0) {
            return TOO_MANY;
        }
        slots[slot].begin(width, n);
        return 0;
    }

    public int write(int slot, int i, long v) {
        if (!isSlot(slot)) {
            return NO_SUCH;
        }
        Slot written = slots[slot];
        if (!written.full) {
            return NOTHING;
        }
        if (i < 0 || i >= written.size) {
            return NO_NUMBER;
        }
        written.put(i, v);
        return 0;
    }

    public int paste(int slot, int i, int to, int k, int n) {
        if (!isSlot(slot) || !isSlot(to)) {
            return NO_SUCH;
        }
        Slot from = slots[slot];
        Slot other = slots[to];
        if (!from.full || !other.full) {
            return NOTHING;
        }
        if (from.width != other.width) {
            return UNLIKE_WIDTHS;
        }
        if (!from.has(i, n) || !other.has(k, n)) {
            return NO_NUMBER;
        }
        System.arraycopy(from.numbers, i, other.numbers, k, n);
        return 0;
    }

    // ---- helpers of the face ----

    private static boolean isZeroOrOne(int what) {
        return what == 0 || what == 1;
    }

    private static boolean isWay(int way) {
        return way >= 0 && way < WAYS;
    }

    private static boolean isSeed(int seed) {
        return seed >= 0 && seed <= MOST_SEED;
    }

    private static boolean isSlot(int slot) {
        return slot >= 0 && slot < SLOTS;
    }

    private boolean isLesson(int door, int knock, int open) {
        return plan.isDoor(door) && plan.isKnock(knock) && isZeroOrOne(open);
    }

    private static int bit(int bits, int i) {
        return bits >> i & 1;
    }

    private static boolean agree(int deeds, int open, int shut) {
        return (open & ~deeds) == 0 && (shut & deeds) == 0;
    }

    private int doneBy(int door) {
        Door model = plan.modelOf(door);
        return learner.learn(model.way, model.lessons);
    }

    /** What its own LESSONS would make of a DOOR by a WAY, whomever it copies. */
    private int wouldDo(int door, int way) {
        return learner.learn(way, plan.doors[door].lessons);
    }

    private int ownerDeeds() {
        return rules.deedsOf(plan.ownerSigns, plan.ownerThere);
    }

    private int houseDeeds(int house) {
        return rules.deedsOf(plan.houseSigns[house], plan.houseThere[house]);
    }

    private int marksFor(int deeds) {
        return Integer.bitCount(plan.exams.allAs(deeds));
    }

    private int gainOf(int door, int knock, int open) {
        Lessons own = plan.doors[door].lessons;
        int before = marksFor(doneBy(door));
        own.add(knock, open);
        int after = marksFor(doneBy(door));
        own.dropLast();
        return after - before;
    }

    private int fooling(int door) {
        return doneBy(door) & ~ownerDeeds();
    }

    private int foolingAfter(int door, int knock) {
        Lessons own = plan.doors[door].lessons;
        own.add(knock, bit(ownerDeeds(), knock));
        int deeds = doneBy(door);
        own.dropLast();
        return Integer.bitCount(deeds & ~ownerDeeds());
    }

    private int stolenBy(int door, int way) {
        return wouldDo(door, way) & ~ownerDeeds();
    }

    private boolean isRest(int door, int way, int knock) {
        if (bit(ownerDeeds(), knock) == 1) {
            return false;
        }
        // A burglar who gains nothing stays where no KNOCK gains, and the school can't have less than nothing.
        if (bit(stolenBy(door, way), knock) == 0) {
            return stolenBy(door, way) == 0;
        }
        for (int other = 0; other < WAYS; other++) {
            if (bit(stolenBy(door, other), knock) == 0) {
                return false;
            }
        }
        return true;
    }

    private boolean hangAll() {
        if (plan.doorCount < plan.houseCount) {
            return false;
        }
        for (int door = 0; door < plan.doorCount; door++) {
            int deeds = doneBy(door);
            for (int house = 0; house < plan.houseCount; house++) {
                hanging.amiss[house * MOST_DOORS + door] = Integer.bitCount(deeds ^ houseDeeds(house));
            }
        }
        hanging.search(plan.doorCount, plan.houseCount);
        return true;
    }

    /** 0 where a SLOT's row is pairs of a KNOCK and what is done; else what is answered instead. */
    private int troubleWith(int slot) {
        if (!isSlot(slot) || !plan.exists()) {
            return NO_SUCH;
        }
        if (!slots[slot].full) {
            return NOTHING;
        }
        return slots[slot].isPairs(plan.knocks()) ? 0 : NO_SUCH;
    }

    private int askedOf(Slot row) {
        int found = NONE;
        int least = rules.howMany(row.said(1), row.said(0));
        for (int knock = 0; knock < plan.knocks(); knock++) {
            int left = leftAtWorst(row, knock);
            if (left < least) {
                least = left;
                found = knock;
            }
        }
        return found;
    }

    private int leftAtWorst(Slot row, int knock) {
        int open = row.said(1);
        int shut = row.said(0);
        int more = 1 << knock;
        return Math.max(rules.howMany(open | more, shut), rules.howMany(open, shut | more));
    }

    private int doneInStorm(int seed, int door) {
        long x = seed;
        int deeds = doneBy(door);
        for (int knock = 0; knock < plan.knocks(); knock++) {
            x = (1103515245L * x + 12345L) % 2147483648L;
            if (x / 65536L % 100L < plan.doors[door].slips) {
                deeds ^= 1 << knock;
            }
        }
        return deeds;
    }

    private int fullSlots() {
        int found = 0;
        for (int slot = 0; slot < SLOTS; slot++) {
            if (slots[slot].full) {
                found++;
            }
        }
        return found;
    }

    /** The bytes that are read at the next school(). */
    private static final class Tape {
        private final byte[] bytes = new byte[MOST_BYTES];
        private int size;

        private void append(int four) {
            for (int shift = 24; shift >= 0 && size < bytes.length; shift -= 8) {
                bytes[size] = (byte) (four >>> shift);
                size++;
            }
        }
    }

    /** Tells a tape's TOKENS apart and reads a SCHOOL from them, until the first FAULT. */
    private static final class Reader {
        private static final int AT_END = 0;
        private static final int WORD = 1;
        private static final int NUMBER = 2;
        private static final int SIGN = 3;
        private static final int OTHER = 4;
        /** Greater than any number that has a meaning; longer ones stay so without wrapping round. */
        private static final int TOO_GREAT = 1000000;

        private final Tape tape;
        private int kind;
        private int start;
        private int stop;
        private int value;
        private int fault;
        private int place = NONE;

        private Reader(Tape tape) {
            this.tape = tape;
        }

        private void read(Plan into) {
            fault = 0;
            place = NONE;
            stop = 0;
            into.clear();
            step();
            for (int line = 0; line <= MOST_BYTES && kind != AT_END && fault == 0; line++) {
                if (line == 0) {
                    readFirst(into);
                } else if (stands("door")) {
                    readDoor(into);
                } else if (stands("lesson")) {
                    readLesson(into);
                } else if (stands("exam")) {
                    readExam(into);
                } else if (stands("twin")) {
                    readTwin(into);
                } else if (stands("owner")) {
                    readOwner(into);
                } else if (stands("house")) {
                    readHouse(into);
                } else if (stands("course")) {
                    readCourse(into);
                } else if (stands("ahead")) {
                    readAhead(into);
                } else {
                    blame(1);
                }
                pass(kind == SIGN);
                into.lines++;
            }
        }

        private void readFirst(Plan into) {
            pass(stands("school"));
            pass(stands("signs"));
            into.signs = takeNumber(2, MOST_SIGNS);
            pass(stands("teachers"));
            into.teachers = takeNumber(1, MOST_TEACHERS);
        }

        private void readDoor(Plan into) {
            if (into.doorCount >= MOST_DOORS) {
                blame(3);
                return;
            }
            step();
            int way = takeWay();
            pass(stands("slips"));
            int slips = takeNumber(0, MOST_SLIPS);
            if (fault == 0) {
                into.doors[into.doorCount].begin(way, slips);
                into.doorCount++;
            }
        }

        private void readLesson(Plan into) {
            step();
            int door = numberHere(0, into.doorCount - 1);
            if (fault != 0) {
                return;
            }
            Lessons own = into.doors[door].lessons;
            if (own.size >= MOST_LESSONS) {
                blame(3);
                return;
            }
            step();
            readSaid(into, own);
        }

        private void readExam(Plan into) {
            if (into.exams.size >= MOST_EXAMS) {
                blame(3);
                return;
            }
            step();
            readSaid(into, into.exams);
        }

        private void readSaid(Plan into, Lessons behind) {
            int knock = takeNumber(0, into.knocks() - 1);
            int open = stands("open") ? 1 : 0;
            pass(open == 1 || stands("shut"));
            if (fault == 0) {
                behind.add(knock, open);
            }
        }

        private void readTwin(Plan into) {
            step();
            int door = numberHere(0, into.doorCount - 1);
            if (fault == 0 && (into.doors[door].copies != NONE || into.isCopied(door))) {
                blame(2);
            }
            if (fault != 0) {
                return;
            }
            step();
            int other = numberHere(0, into.doorCount - 1);
            if (fault == 0 && (other == door || into.doors[other].copies != NONE)) {
                blame(2);
            }
            if (fault == 0) {
                into.doors[door].copies = other;
                step();
            }
        }

        private void readOwner(Plan into) {
            step();
            int signs = takeNumber(0, into.knocks() - 1);
            int there = takePart(signs);
            if (fault == 0) {
                into.ownerSigns = signs;
                into.ownerThere = there;
            }
        }

        private void readHouse(Plan into) {
            if (into.houseCount >= MOST_HOUSES) {
                blame(3);
                return;
            }
            step();
            int signs = takeNumber(0, into.knocks() - 1);
            int there = takePart(signs);
            if (fault == 0) {
                into.houseSigns[into.houseCount] = signs;
                into.houseThere[into.houseCount] = there;
                into.houseCount++;
            }
        }

        private void readCourse(Plan into) {
            if (into.courseCount >= MOST_COURSES) {
                blame(3);
                return;
            }
            step();
            pass(stands("takes"));
            int hours = takeNumber(1, MOST_COURSE_HOURS);
            if (fault == 0) {
                into.takes[into.courseCount] = hours;
                into.courseCount++;
            }
        }

        private void readAhead(Plan into) {
            step();
            int first = takeNumber(0, into.courseCount - 1);
            int then = takeNumber(first + 1, into.courseCount - 1);
            if (fault == 0) {
                into.ahead[then] |= 1 << first;
            }
        }

        private int takeWay() {
            int way = NONE;
            if (stands("heart")) {
                way = HEART;
            } else if (stands("shortest")) {
                way = SHORTEST;
            } else if (stands("nearest")) {
                way = NEAREST;
            }
            pass(way != NONE);
            return way;
        }

        private int takePart(int signs) {
            int there = numberHere(0, MOST_KNOCKS - 1);
            if (fault == 0 && (there & ~signs) != 0) {
                blame(2);
            }
            if (fault == 0) {
                step();
            }
            return there;
        }

        private int takeNumber(int low, int high) {
            int number = numberHere(low, high);
            if (fault == 0) {
                step();
            }
            return number;
        }

        /** The number that stands here, not stepped over yet: what else is wrong with it has its place. */
        private int numberHere(int low, int high) {
            if (kind != NUMBER) {
                blame(1);
            } else if (value < low || value > high) {
                blame(2);
            }
            return fault == 0 ? value : NONE;
        }

        /** Steps over the TOKEN that stands here, if it can. */
        private void pass(boolean can) {
            if (!can) {
                blame(1);
            }
            if (fault == 0) {
                step();
            }
        }

        private void blame(int what) {
            if (fault == 0) {
                fault = what;
                place = start;
            }
        }

        private boolean stands(String word) {
            if (kind != WORD || stop - start != word.length()) {
                return false;
            }
            for (int i = 0; i < word.length(); i++) {
                if (tape.bytes[start + i] != word.charAt(i)) {
                    return false;
                }
            }
            return true;
        }

        private void step() {
            start = stop;
            while (start < tape.size && isBlank(tape.bytes[start])) {
                start++;
            }
            kind = kindAt(start);
            value = 0;
            stop = start;
            if (kind == SIGN || kind == OTHER) {
                stop++;
            }
            while ((kind == WORD || kind == NUMBER) && stop < tape.size && kindAt(stop) == kind) {
                if (kind == NUMBER) {
                    value = Math.min(10 * value + tape.bytes[stop] - '0', TOO_GREAT);
                }
                stop++;
            }
        }

        private int kindAt(int i) {
            if (i >= tape.size) {
                return AT_END;
            }
            byte sign = tape.bytes[i];
            if (sign >= 'a' && sign <= 'z') {
                return WORD;
            }
            if (sign >= '0' && sign <= '9') {
                return NUMBER;
            }
            return sign == ';' ? SIGN : OTHER;
        }

        private static boolean isBlank(byte sign) {
            return sign == 32 || sign == 10;
        }
    }

    /** Pairs of a KNOCK and what is done, in order: LESSONS or EXAMS. */
    private static final class Lessons {
        /** One more than a DOOR keeps: what one LESSON more would bring is tried out in place. */
        private static final int ROOM = MOST_LESSONS + 1;

        private final int[] knocks = new int[ROOM];
        private final int[] opens = new int[ROOM];
        private int size;

        private void add(int knock, int open) {
            putIn(size, knock, open);
        }

        private void dropLast() {
            takeOut(size - 1);
        }

        private void putIn(int i, int knock, int open) {
            if (i < 0 || i > size || size >= ROOM) {
                return;
            }
            for (int k = size; k > i; k--) {
                knocks[k] = knocks[k - 1];
                opens[k] = opens[k - 1];
            }
            knocks[i] = knock;
            opens[i] = open;
            size++;
        }

        private void takeOut(int i) {
            if (i < 0 || i >= size) {
                return;
            }
            for (int k = i; k + 1 < size; k++) {
                knocks[k] = knocks[k + 1];
                opens[k] = opens[k + 1];
            }
            size--;
        }

        private void takeFrom(Lessons other) {
            size = other.size;
            System.arraycopy(other.knocks, 0, knocks, 0, ROOM);
            System.arraycopy(other.opens, 0, opens, 0, ROOM);
        }

        /** KNOCKS of which some LESSON says so, as bits. */
        private int said(int open) {
            int found = 0;
            for (int i = 0; i < size; i++) {
                if (opens[i] == open) {
                    found |= 1 << knocks[i];
                }
            }
            return found;
        }

        private int latestOf(int knock) {
            for (int i = size - 1; i >= 0; i--) {
                if (knocks[i] == knock) {
                    return i;
                }
            }
            return NONE;
        }

        private int nearestTo(int knock) {
            int found = NONE;
            int least = MOST_SIGNS + 1;
            for (int i = 0; i < size; i++) {
                int unlike = Integer.bitCount(knocks[i] ^ knock);
                if (unlike < least) {
                    least = unlike;
                    found = i;
                }
            }
            return found;
        }

        /** Those that DEEDS do as they say, as bits. */
        private int allAs(int deeds) {
            int found = 0;
            for (int i = 0; i < size; i++) {
                if (bit(deeds, knocks[i]) == opens[i]) {
                    found |= 1 << i;
                }
            }
            return found;
        }

        private int firstNotAs(int deeds) {
            for (int i = 0; i < size; i++) {
                if (bit(deeds, knocks[i]) != opens[i]) {
                    return i;
                }
            }
            return NONE;
        }
    }

    /** A DOOR as the SCHOOL tells it. */
    private static final class Door {
        private final Lessons lessons = new Lessons();
        private int way;
        private int slips;
        private int copies = NONE;

        private void begin(int itsWay, int itsSlips) {
            way = itsWay;
            slips = itsSlips;
            copies = NONE;
            lessons.size = 0;
        }

        private void takeFrom(Door other) {
            begin(other.way, other.slips);
            copies = other.copies;
            lessons.takeFrom(other.lessons);
        }
    }

    /** A SCHOOL (of no LINES: none) and what came to it by teach(). */
    private static final class Plan {
        private int lines;
        private int signs;
        private int teachers;
        private int doorCount;
        private final Door[] doors = new Door[MOST_DOORS];
        private final Lessons exams = new Lessons();
        private int ownerSigns;
        private int ownerThere;
        private int houseCount;
        private final int[] houseSigns = new int[MOST_HOUSES];
        private final int[] houseThere = new int[MOST_HOUSES];
        private int courseCount;
        private final int[] takes = new int[MOST_COURSES];
        /** Of each COURSE those that are ahead of it, as bits. */
        private final int[] ahead = new int[MOST_COURSES];
        private int taught;
        private final int[] taughtDoors = new int[MOST_TAUGHT];

        private Plan() {
            for (int door = 0; door < MOST_DOORS; door++) {
                doors[door] = new Door();
            }
        }

        private void clear() {
            lines = 0;
            signs = 0;
            teachers = 0;
            doorCount = 0;
            exams.size = 0;
            ownerSigns = 0;
            ownerThere = 0;
            houseCount = 0;
            courseCount = 0;
            Arrays.fill(ahead, 0);
            taught = 0;
        }

        private void takeFrom(Plan other) {
            lines = other.lines;
            signs = other.signs;
            teachers = other.teachers;
            doorCount = other.doorCount;
            for (int door = 0; door < MOST_DOORS; door++) {
                doors[door].takeFrom(other.doors[door]);
            }
            exams.takeFrom(other.exams);
            ownerSigns = other.ownerSigns;
            ownerThere = other.ownerThere;
            houseCount = other.houseCount;
            System.arraycopy(other.houseSigns, 0, houseSigns, 0, MOST_HOUSES);
            System.arraycopy(other.houseThere, 0, houseThere, 0, MOST_HOUSES);
            courseCount = other.courseCount;
            System.arraycopy(other.takes, 0, takes, 0, MOST_COURSES);
            System.arraycopy(other.ahead, 0, ahead, 0, MOST_COURSES);
            taught = other.taught;
            System.arraycopy(other.taughtDoors, 0, taughtDoors, 0, MOST_TAUGHT);
        }

        private boolean exists() {
            return lines > 0;
        }

        private int knocks() {
            return 1 << signs;
        }

        private boolean isDoor(int door) {
            return door >= 0 && door < doorCount;
        }

        private boolean isHouse(int house) {
            return house >= 0 && house < houseCount;
        }

        private boolean isKnock(int knock) {
            return exists() && knock >= 0 && knock < knocks();
        }

        private boolean isRule(int of, int there) {
            return isKnock(of) && (there & ~of) == 0;
        }

        /** Whether these bits are KNOCKS alone. */
        private boolean isDeeds(int bits) {
            return exists() && bits >= 0 && bits < 1 << knocks();
        }

        private boolean isCopied(int door) {
            for (int other = 0; other < doorCount; other++) {
                if (doors[other].copies == door) {
                    return true;
                }
            }
            return false;
        }

        /** The DOOR that it does as: whom it copies, or itself. */
        private Door modelOf(int door) {
            int copied = doors[door].copies;
            return copied == NONE ? doors[door] : doors[copied];
        }
    }

    /** All RULES over some signs, in order, with their DEEDS. */
    private static final class Rules {
        private int knocks;
        private int size;
        private final int[] signs = new int[MOST_RULES];
        private final int[] there = new int[MOST_RULES];
        private final int[] deeds = new int[MOST_RULES];

        private void prepare(int signCount) {
            knocks = 1 << signCount;
            size = 0;
            for (int several = 0; several <= signCount; several++) {
                for (int set = 0; set < knocks; set++) {
                    if (Integer.bitCount(set) == several) {
                        addAllOf(set);
                    }
                }
            }
        }

        private void addAllOf(int set) {
            for (int part = 0; part <= set && size < MOST_RULES; part++) {
                if ((part & ~set) == 0) {
                    signs[size] = set;
                    there[size] = part;
                    deeds[size] = deedsOf(set, part);
                    size++;
                }
            }
        }

        private int deedsOf(int set, int part) {
            int found = 0;
            for (int knock = 0; knock < knocks; knock++) {
                if ((knock & set) == part) {
                    found |= 1 << knock;
                }
            }
            return found;
        }

        private int placeOf(int wanted) {
            for (int i = 0; i < size; i++) {
                if (deeds[i] == wanted) {
                    return i;
                }
            }
            return NONE;
        }

        /** The first RULE that opens to all of some KNOCKS and to none of others. */
        private int first(int open, int shut) {
            for (int i = 0; i < size; i++) {
                if (agree(deeds[i], open, shut)) {
                    return i;
                }
            }
            return NONE;
        }

        private int howMany(int open, int shut) {
            int found = 0;
            for (int i = 0; i < size; i++) {
                if (agree(deeds[i], open, shut)) {
                    found++;
                }
            }
            return found;
        }

        /** KNOCKS to which all such RULES open, or all are shut. */
        private int surely(int open, int shut, boolean opening) {
            int found = (1 << knocks) - 1;
            for (int i = 0; i < size; i++) {
                if (agree(deeds[i], open, shut)) {
                    found &= opening ? deeds[i] : ~deeds[i];
                }
            }
            return found;
        }
    }

    /** What comes of LESSONS by the three WAYS, and which LESSONS bring DEEDS about. */
    private static final class Learner {
        private static final int APARTS = MOST_SIGNS + 1;

        private final Rules rules;
        /** For a KNOCK and a number of signs: the KNOCKS that differ in so many, as bits. */
        private final int[] apart = new int[MOST_KNOCKS * APARTS];

        private Learner(Rules rules) {
            this.rules = rules;
            for (int knock = 0; knock < MOST_KNOCKS; knock++) {
                for (int other = 0; other < MOST_KNOCKS; other++) {
                    apart[knock * APARTS + Integer.bitCount(knock ^ other)] |= 1 << other;
                }
            }
        }

        private int learn(int way, Lessons lessons) {
            if (way == SHORTEST) {
                int found = rules.first(lessons.said(1), lessons.said(0));
                return found == NONE ? 0 : rules.deeds[found];
            }
            int done = 0;
            for (int knock = 0; knock < rules.knocks; knock++) {
                int by = way == HEART ? lessons.latestOf(knock) : lessons.nearestTo(knock);
                if (by != NONE && lessons.opens[by] == 1) {
                    done |= 1 << knock;
                }
            }
            return done;
        }

        /** What comes of LESSONS of a set of KNOCKS, in order, each as DEEDS say. */
        private int learnSet(int way, int set, int deeds) {
            if (way == HEART) {
                return set & deeds;
            }
            if (way == SHORTEST) {
                int found = rules.first(set & deeds, set & ~deeds);
                return found == NONE ? 0 : rules.deeds[found];
            }
            int done = 0;
            for (int knock = 0; knock < rules.knocks; knock++) {
                if ((nearestOf(set, knock) & deeds) != 0) {
                    done |= 1 << knock;
                }
            }
            return done;
        }

        /** The KNOCK of a set, as its bit, that is nearest to one, the least of several; 0 of an empty set. */
        private int nearestOf(int set, int knock) {
            for (int several = 0; several < APARTS; several++) {
                int near = set & apart[knock * APARTS + several];
                if (near != 0) {
                    return near & -near;
                }
            }
            return 0;
        }

        private boolean teaches(int way, int set, int deeds) {
            if (way != NEAREST) {
                return learnSet(way, set, deeds) == deeds;
            }
            // Most sets miss at one of the first KNOCKS: it is not worth while to learn the rest.
            for (int knock = 0; knock < rules.knocks; knock++) {
                if ((nearestOf(set, knock) & deeds) != 0 != (bit(deeds, knock) == 1)) {
                    return false;
                }
            }
            return true;
        }

        /** The least of the smallest sets that teach DEEDS; NONE without one. */
        private int leastSet(int way, int deeds) {
            if (!teaches(way, allKnocks(), deeds)) {
                return NONE;
            }
            int needed = needed(way, deeds);
            for (int n = Integer.bitCount(needed); n <= rules.knocks; n++) {
                int set = (1 << n) - 1;
                for (int i = 0; i <= allKnocks() && set <= allKnocks(); i++) {
                    if ((needed & ~set) == 0 && teaches(way, set, deeds)) {
                        return set;
                    }
                    set = setBehind(set);
                }
            }
            return NONE;
        }

        private int setsOf(int way, int deeds, int n) {
            if (!teaches(way, allKnocks(), deeds)) {
                return 0;
            }
            int needed = needed(way, deeds);
            int found = 0;
            int set = (1 << n) - 1;
            for (int i = 0; i <= allKnocks() && set <= allKnocks(); i++) {
                if ((needed & ~set) == 0 && teaches(way, set, deeds)) {
                    found++;
                }
                set = setBehind(set);
            }
            return found;
        }

        /** KNOCKS that are in every set that teaches; where more LESSONS can do harm, none are told. */
        private int needed(int way, int deeds) {
            int found = 0;
            for (int knock = 0; way != NEAREST && knock < rules.knocks; knock++) {
                if (!teaches(way, allKnocks() & ~(1 << knock), deeds)) {
                    found |= 1 << knock;
                }
            }
            return found;
        }

        private int allKnocks() {
            return (1 << rules.knocks) - 1;
        }

        /** The next greater set of as many KNOCKS; one beyond all KNOCKS behind the empty one. */
        private static int setBehind(int set) {
            if (set == 0) {
                return 1 << MOST_KNOCKS;
            }
            int carried = set + (set & -set);
            return carried | (1 << Integer.bitCount(set ^ carried) - 2) - 1;
        }

        private int errorsBy(int way, int set) {
            int found = 0;
            for (int i = 0; i < rules.size; i++) {
                found += Integer.bitCount(learnSet(way, set, rules.deeds[i]) ^ rules.deeds[i]);
            }
            return found;
        }

        private int learntWhole(int way, int set) {
            int found = 0;
            for (int i = 0; i < rules.size; i++) {
                if (learnSet(way, set, rules.deeds[i]) == rules.deeds[i]) {
                    found++;
                }
            }
            return found;
        }
    }

    /** Finds the best row of DOORS for HOUSES, the first of several. */
    private static final class Hanging {
        /** HOUSE by HOUSE what each DOOR does amiss there. */
        private final int[] amiss = new int[MOST_HOUSES * MOST_DOORS];
        private final int[] row = new int[MOST_HOUSES];
        private final int[] firstRow = new int[MOST_HOUSES];
        private int doorCount;
        private int houseCount;
        private int fewest;

        private void search(int doors, int houses) {
            doorCount = doors;
            houseCount = houses;
            fewest = MOST_HOUSES * MOST_KNOCKS + 1;
            hangFrom(this, 0, 0, 0);
        }

        private static void hangFrom(Hanging in, int house, int taken, int sum) {
            if (house >= in.houseCount || house >= MOST_HOUSES) {
                in.keepIfBetter(sum);
                return;
            }
            for (int door = 0; door < in.doorCount; door++) {
                if (bit(taken, door) == 0) {
                    in.row[house] = door;
                    hangFrom(in, house + 1, taken | 1 << door, sum + in.amiss[house * MOST_DOORS + door]);
                }
            }
        }

        /** Rows come in order, so a later one must be better to be kept. */
        private void keepIfBetter(int sum) {
            if (sum < fewest) {
                fewest = sum;
                System.arraycopy(row, 0, firstRow, 0, MOST_HOUSES);
            }
        }
    }

    /** Finds the hours in which COURSES begin so that all is over soonest, the first of several. */
    private static final class Timetable {
        /** All COURSES one behind the other end in time. */
        private static final int HOURS = MOST_COURSES * MOST_COURSE_HOURS;

        /** Hour by hour how many teachers are at work; none between two searches. */
        private final int[] busy = new int[HOURS];
        private final int[] begins = new int[MOST_COURSES];
        private final int[] firstBegins = new int[MOST_COURSES];
        private int teachers;
        private int soonest;

        private int solve(Plan plan, int by) {
            teachers = by;
            soonest = HOURS + 1;
            Arrays.fill(begins, 0);
            placeFrom(this, plan, 0, 0, 0);
            return soonest;
        }

        /**
         * Places the COURSES in every order that keeps those ahead ahead, each in its earliest hour.
         * The table that is looked for is among these: in it no COURSE can be put earlier by itself.
         */
        private static void placeFrom(Timetable in, Plan plan, int depth, int placed, int over) {
            if (depth >= plan.courseCount || depth >= MOST_COURSES) {
                in.keepIfFirst(over);
                return;
            }
            for (int course = 0; course < plan.courseCount; course++) {
                if (bit(placed, course) == 0 && (plan.ahead[course] & ~placed) == 0) {
                    int hour = in.earliest(plan, course);
                    int end = hour + plan.takes[course];
                    if (end <= in.soonest && end <= HOURS) {
                        in.begins[course] = hour;
                        in.work(hour, end, 1);
                        placeFrom(in, plan, depth + 1, placed | 1 << course, Math.max(over, end));
                        in.work(hour, end, -1);
                    }
                }
            }
        }

        private int earliest(Plan plan, int course) {
            int free = 0;
            for (int hour = readyAt(plan, course); hour < HOURS; hour++) {
                free = busy[hour] < teachers ? free + 1 : 0;
                if (free == plan.takes[course]) {
                    return hour + 1 - free;
                }
            }
            return HOURS;
        }

        private int readyAt(Plan plan, int course) {
            int ready = 0;
            for (int other = 0; other < course; other++) {
                if (bit(plan.ahead[course], other) == 1) {
                    ready = Math.max(ready, begins[other] + plan.takes[other]);
                }
            }
            return ready;
        }

        private void work(int from, int to, int more) {
            for (int hour = from; hour < to && hour < HOURS; hour++) {
                busy[hour] += more;
            }
        }

        private void keepIfFirst(int over) {
            if (over > soonest || over == soonest && !isEarlier()) {
                return;
            }
            soonest = over;
            System.arraycopy(begins, 0, firstBegins, 0, MOST_COURSES);
        }

        /** Hours behind the last COURSE are 0 in both. */
        private boolean isEarlier() {
            for (int course = 0; course < MOST_COURSES; course++) {
                if (begins[course] != firstBegins[course]) {
                    return begins[course] < firstBegins[course];
                }
            }
            return false;
        }
    }

    /** A row of numbers, or nothing yet. */
    private static final class Slot {
        private final long[] numbers = new long[MOST_NUMBERS];
        private boolean full;
        private int width;
        private int size;

        private void begin(int itsWidth, int n) {
            full = true;
            width = itsWidth;
            size = n;
            Arrays.fill(numbers, 0L);
        }

        private void put(int i, long v) {
            int cut = 64 - (8 << width);
            numbers[i] = v << cut >> cut;
        }

        private boolean has(int i, int n) {
            return n >= 0 && i >= 0 && i <= size - n;
        }

        private boolean isPairs(int knocks) {
            for (int i = 0; i + 1 < size; i += 2) {
                long knock = numbers[i];
                long open = numbers[i + 1];
                if (knock < 0 || knock >= knocks || open < 0 || open > 1) {
                    return false;
                }
            }
            return size % 2 == 0;
        }

        /** Of a row of pairs: KNOCKS of which some pair says so, as bits. */
        private int said(int open) {
            int found = 0;
            for (int i = 0; i + 1 < size; i += 2) {
                if (numbers[i + 1] == open) {
                    found |= 1 << (int) numbers[i];
                }
            }
            return found;
        }
    }
}
