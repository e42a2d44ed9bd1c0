/** Promises 6 to 17: what a school tells, what its doors do and why, and rules. */
public final class DoingTest {
    /** Door 3 is a twin of door 2; knocks are 0 .. 7. */
    static final String SCHOOL = "school signs 3 teachers 2;door heart slips 10;door shortest slips 20;"
            + "door nearest slips 30;door nearest slips 40;lesson 0 5 open;lesson 0 2 open;lesson 0 5 shut;"
            + "lesson 0 7 open;lesson 1 3 open;lesson 1 6 shut;lesson 2 6 open;lesson 2 1 shut;lesson 3 0 open;"
            + "twin 3 2;exam 0 shut;exam 2 open;exam 5 open;exam 7 open;owner 2 2;house 1 1;house 6 4;";

    public static void main(String[] args) {
        telling();
        deeds();
        why();
        learntRules();
        rules();
        ties();
        Check.finish("DoingTest");
    }

    private static void telling() {
        DoorSchool x = Check.made(SCHOOL);
        int[][] doors = {{0, 10, 4, -1}, {1, 20, 2, -1}, {2, 30, 2, -1}, {2, 40, 1, 2}};
        for (int door = 0; door < 4; door++) {
            for (int what = 0; what < 4; what++) {
                Check.due("door(" + door + ", " + what + ")", x.door(door, what), doors[door][what]);
            }
        }
        Check.due("door(4, 0)", x.door(4, 0), -2);
        Check.due("door(-1, 0)", x.door(-1, 0), -2);
        Check.due("door(0, 4)", x.door(0, 4), -2);
        Check.due("door(0, -1)", x.door(0, -1), -2);

        Check.due("lesson(0, 2, 0)", x.lesson(0, 2, 0), 5);
        Check.due("lesson(0, 2, 1)", x.lesson(0, 2, 1), 0);
        Check.due("lesson(3, 0, 0)", x.lesson(3, 0, 0), 0);
        Check.due("lesson(3, 0, 1)", x.lesson(3, 0, 1), 1);
        Check.due("lesson(3, 1, 1)", x.lesson(3, 1, 1), -1);
        Check.due("lesson(0, 4, 0)", x.lesson(0, 4, 0), -1);
        Check.due("lesson(0, -1, 0)", x.lesson(0, -1, 0), -1);
        Check.due("lesson(4, 0, 0)", x.lesson(4, 0, 0), -2);
        Check.due("lesson(0, 0, 2)", x.lesson(0, 0, 2), -2);
        Check.due("lesson(0, 9, 2)", x.lesson(0, 9, 2), -2);

        Check.due("exam(0, 0)", x.exam(0, 0), 0);
        Check.due("exam(0, 1)", x.exam(0, 1), 0);
        Check.due("exam(3, 0)", x.exam(3, 0), 7);
        Check.due("exam(3, 1)", x.exam(3, 1), 1);
        Check.due("exam(4, 0)", x.exam(4, 0), -2);
        Check.due("exam(-1, 0)", x.exam(-1, 0), -2);
        Check.due("exam(0, 2)", x.exam(0, 2), -2);

        int[][] houses = {{2, 2, 4}, {1, 1, 4}, {6, 4, 2}};
        for (int house = -1; house < 2; house++) {
            for (int what = 0; what < 3; what++) {
                Check.due("house(" + house + ", " + what + ")", x.house(house, what), houses[house + 1][what]);
            }
        }
        Check.due("house(2, 0)", x.house(2, 0), -2);
        Check.due("house(-2, 0)", x.house(-2, 0), -2);
        Check.due("house(0, 3)", x.house(0, 3), -2);
        Check.due("house(-1, 3)", x.house(-1, 3), -2);
    }

    private static void deeds() {
        DoorSchool x = Check.made(SCHOOL);
        int[] deeds = {132, 170, 212, 212};
        for (int door = 0; door < 4; door++) {
            Check.due("deeds(" + door + ")", x.deeds(door), deeds[door]);
            Check.due("often(" + door + ")", x.often(door), Integer.bitCount(deeds[door]));
            for (int knock = 0; knock < 8; knock++) {
                Check.due("opens(" + door + ", " + knock + ")", x.opens(door, knock), deeds[door] >> knock & 1);
            }
        }
        Check.due("opens(4, 0)", x.opens(4, 0), -2);
        Check.due("opens(0, 8)", x.opens(0, 8), -2);
        Check.due("opens(0, -1)", x.opens(0, -1), -2);
        Check.due("deeds(4)", x.deeds(4), -2);
        Check.due("deeds(-1)", x.deeds(-1), -2);
        Check.due("often(4)", x.often(4), -2);
    }

    private static void why() {
        DoorSchool x = Check.made(SCHOOL);
        Check.due("why(0, 5), the latest", x.why(0, 5), 2);
        Check.due("why(0, 2)", x.why(0, 2), 1);
        Check.due("why(0, 0)", x.why(0, 0), -1);
        Check.due("why(1, 3), by a rule", x.why(1, 3), -1);
        Check.due("why(2, 6)", x.why(2, 6), 0);
        Check.due("why(2, 0)", x.why(2, 0), 1);
        Check.due("why(3, 4), as whom it copies", x.why(3, 4), 0);
        Check.due("why(3, 0), as whom it copies", x.why(3, 0), 1);
        Check.due("why(4, 0)", x.why(4, 0), -2);
        Check.due("why(0, 8)", x.why(0, 8), -2);
    }

    private static void learntRules() {
        DoorSchool x = Check.made(SCHOOL);
        // Door 1: 011 open, 110 shut. Neither nothing nor sign 0 away will do: the third rule does.
        int[] first = {1, 1, 2};
        for (int what = 0; what < 3; what++) {
            Check.due("rule(1, " + what + ")", x.rule(1, what), first[what]);
        }
        Check.due("rules(1)", x.rules(1), 6);
        // Door 0 is told of knock 5 both ways.
        Check.due("rule(0, 0)", x.rule(0, 0), -1);
        Check.due("rule(0, 2)", x.rule(0, 2), -1);
        Check.due("rules(0)", x.rules(0), 0);
        // Door 2: 110 open, 001 shut; door 3: its own lesson alone.
        Check.due("rule(2, 0)", x.rule(2, 0), 1);
        Check.due("rule(2, 1)", x.rule(2, 1), 0);
        Check.due("rule(2, 2)", x.rule(2, 2), 1);
        Check.due("rules(2)", x.rules(2), 7);
        Check.due("rule(3, 0)", x.rule(3, 0), 0);
        Check.due("rule(3, 2)", x.rule(3, 2), 0);
        Check.due("rules(3)", x.rules(3), 8);
        Check.due("rule(4, 0)", x.rule(4, 0), -2);
        Check.due("rule(1, 3)", x.rule(1, 3), -2);
        Check.due("rule(0, 3)", x.rule(0, 3), -2);
        Check.due("rule(1, -1)", x.rule(1, -1), -2);
        Check.due("rules(4)", x.rules(4), -2);
        // With all eight knocks told as rule 7 5 says, that one is left: the 25th of 27.
        DoorSchool y = Check.made("school signs 3 teachers 1;door heart slips 0;lesson 0 5 open;lesson 0 4 shut;"
                + "lesson 0 7 shut;lesson 0 1 shut;");
        Check.due("rule 7 5's place", y.rule(0, 2), 24);
        Check.due("rule 7 5's signs", y.rule(0, 0), 7);
        Check.due("rule 7 5's there", y.rule(0, 1), 5);
        // Fewer signs come first: sign 2 (M 4) ahead of signs 0 and 1 (M 3).
        DoorSchool z = Check.made("school signs 3 teachers 1;door shortest slips 0;lesson 0 4 open;lesson 0 3 shut;"
                + "lesson 0 2 shut;lesson 0 1 shut;lesson 0 0 shut;");
        Check.due("rule 4 4's place", z.rule(0, 2), 6);
        Check.due("deeds by rule 4 4", z.deeds(0), 0xf0);
    }

    private static void rules() {
        DoorSchool x = Check.made(SCHOOL);
        Check.due("does(0, 0)", x.does(0, 0), 255);
        Check.due("does(6, 4)", x.does(6, 4), 48);
        Check.due("does(7, 0)", x.does(7, 0), 1);
        Check.due("does(7, 7)", x.does(7, 7), 128);
        Check.due("does(4, 0)", x.does(4, 0), 15);
        Check.due("does(8, 0)", x.does(8, 0), -2);
        Check.due("does(2, 1)", x.does(2, 1), -2);
        Check.due("does(-1, 0)", x.does(-1, 0), -2);
        Check.due("does(3, -1)", x.does(3, -1), -2);
        Check.due("told(255, 0)", x.told(255, 0), 0);
        Check.due("told(48, 0)", x.told(48, 0), 6);
        Check.due("told(48, 1)", x.told(48, 1), 4);
        Check.due("told(128, 1)", x.told(128, 1), 7);
        Check.due("told(0, 0)", x.told(0, 0), -1);
        Check.due("told(129, 1)", x.told(129, 1), -1);
        Check.due("told(256, 0)", x.told(256, 0), -2);
        Check.due("told(-1, 0)", x.told(-1, 0), -2);
        Check.due("told(48, 2)", x.told(48, 2), -2);
        Check.due("told(0, 2)", x.told(0, 2), -2);
        DoorSchool y = Check.made("school signs 4 teachers 1;");
        Check.due("does(15, 15) of four signs", y.does(15, 15), 32768);
        Check.due("told(65535, 0) of four signs", y.told(65535, 0), 0);
        Check.due("told(65536, 0) of four signs", y.told(65536, 0), -2);
    }

    private static void ties() {
        // Knock 0 lies one sign from 1 and from 2: the first lesson counts, not the lesser knock.
        DoorSchool x = Check.made("school signs 2 teachers 1;door nearest slips 0;door nearest slips 0;door nearest slips 0;"
                + "lesson 0 2 open;lesson 0 1 shut;lesson 1 1 shut;lesson 1 2 open;lesson 2 3 shut;lesson 2 3 open;");
        Check.due("deeds(0), 2 told first", x.deeds(0), 0b1101);
        Check.due("deeds(1), 1 told first", x.deeds(1), 0b0100);
        Check.due("why(0, 3)", x.why(0, 3), 0);
        Check.due("deeds(2), told twice", x.deeds(2), 0);
        Check.due("why(2, 3), told twice", x.why(2, 3), 0);
        DoorSchool far = Check.made("school signs 4 teachers 1;door nearest slips 0;lesson 0 0 open;");
        Check.due("why(0, 15), four signs off", far.why(0, 15), 0);
        Check.due("deeds(0), one lesson for all", far.deeds(0), 65535);
        DoorSchool y = Check.made("school signs 2 teachers 1;door heart slips 0;door shortest slips 0;door nearest slips 0;");
        Check.due("deeds(0) unlearned", y.deeds(0), 0);
        Check.due("deeds(1) unlearned", y.deeds(1), 15);
        Check.due("deeds(2) unlearned", y.deeds(2), 0);
        Check.due("why(2, 0) unlearned", y.why(2, 0), -1);
    }
}
