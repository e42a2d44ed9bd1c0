/** Promises 31 to 42: who fools a door, lessons against that, ways of learning against one another. */
public final class FoolingTest {
    public static void main(String[] args) {
        fooled();
        tricks();
        hardening();
        game();
        rests();
        ways();
        errors();
        next();
        Check.finish("FoolingTest");
    }

    private static void fooled() {
        DoorSchool x = Check.made(DoingTest.SCHOOL);
        int[][] due = {{0, 72}, {34, 68}, {16, 8}, {16, 8}};
        for (int door = 0; door < 4; door++) {
            Check.due("fooled(" + door + ", 0)", x.fooled(door, 0), due[door][0]);
            Check.due("fooled(" + door + ", 1)", x.fooled(door, 1), due[door][1]);
        }
        Check.due("fooled(4, 0)", x.fooled(4, 0), -2);
        Check.due("fooled(0, 2)", x.fooled(0, 2), -2);
        Check.due("fooled(0, -1)", x.fooled(0, -1), -2);
    }

    private static void tricks() {
        DoorSchool x = Check.made(DoingTest.SCHOOL);
        // Door 0 opens to 2 and 7.
        int[] trick = {2, 2, 2, 2, 2, 7, 2, 7};
        int[] tries = {1, 2, 0, 1, 2, 1, 1, 0};
        for (int knock = 0; knock < 8; knock++) {
            Check.due("trick(0, " + knock + ")", x.trick(0, knock), trick[knock]);
            Check.due("tries(0, " + knock + ")", x.tries(0, knock), tries[knock]);
        }
        Check.due("tries(0, 8)", x.tries(0, 8), -2);
        Check.due("trick(0, -1)", x.trick(0, -1), -2);
        Check.due("tries(4, 0)", x.tries(4, 0), -2);
        Check.due("trick(4, 0)", x.trick(4, 0), -2);
        DoorSchool y = Check.made("school signs 4 teachers 1;door heart slips 0;door heart slips 0;lesson 1 15 open;twin 0 1;");
        Check.due("tries from 0 to 15, by a twin", y.tries(0, 0), 4);
        y.teach(1, 0, 1);
        Check.due("tries from 7 to 15", y.tries(0, 7), 1);
        Check.due("tries from 3, as near to 0", y.tries(0, 3), 2);
        Check.due("trick from 3, as near to 0", y.trick(0, 3), 0);
        Check.due("tries from 1 to 0", y.tries(0, 1), 1);
        y.copy(0, -1);
        Check.due("tries of one that never opens", y.tries(0, 0), -1);
        Check.due("trick of one that never opens", y.trick(0, 0), -1);
    }

    private static void hardening() {
        DoorSchool x = Check.made(DoingTest.SCHOOL);
        Check.due("harden(0), nothing to do", x.harden(0), -1);
        Check.due("left(0)", x.left(0), 0);
        // Door 1: 0 shut leaves its rule, 1 shut leads on to rule 3 3.
        Check.due("harden(1)", x.harden(1), 1);
        Check.due("left(1)", x.left(1), 0);
        Check.due("harden(2)", x.harden(2), 4);
        Check.due("left(2)", x.left(2), 0);
        Check.due("harden(3), a twin", x.harden(3), -1);
        Check.due("left(3), a twin", x.left(3), 1);
        Check.due("harden(4)", x.harden(4), -2);
        Check.due("left(4)", x.left(4), -2);
        Check.due("left(-1)", x.left(-1), -2);
        Check.due("lessons as before", x.door(2, 2), 2);
        Check.due("deeds as before", x.deeds(2), 212);
        // By what is nearest, 0 shut leaves 1 and 2 (as near to 3, told first); 1 or 2 shut leaves the other one.
        DoorSchool y = Check.made("school signs 2 teachers 1;door nearest slips 0;lesson 0 3 open;owner 3 3;");
        Check.due("fooled", y.fooled(0, 0), 7);
        Check.due("harden, the least of several", y.harden(0), 1);
        Check.due("left", y.left(0), 1);
        DoorSchool zero = Check.made("school signs 2 teachers 1;door heart slips 0;lesson 0 0 open;lesson 0 1 open;owner 3 3;");
        Check.due("harden at 0", zero.harden(0), 0);
        Check.due("left of 0 and 1", zero.left(0), 1);
        DoorSchool z = Check.made("school signs 2 teachers 1;door heart slips 0;owner 1 1;" + "lesson 0 2 open;".repeat(12));
        Check.due("harden with twelve", z.harden(0), 2);
        Check.due("left with twelve", z.left(0), 0);
        Check.due("twelve still", z.door(0, 2), 12);
    }

    private static void game() {
        DoorSchool x = Check.made(DoingTest.SCHOOL);
        // Lessons 6 open and 1 shut: 6 by heart, 0 2 4 6 by the shortest rule, 2 4 6 7 by what is nearest.
        int[] knocks = {0, 1, 4, 5};
        int[][] gain = {{0, 0, 0, 0}, {1, 0, 1, 0}, {0, 0, 1, 0}};
        for (int way = 0; way < 3; way++) {
            for (int i = 0; i < 4; i++) {
                Check.due("game(2, " + way + ", " + knocks[i] + ")", x.game(2, way, knocks[i]), gain[way][i]);
            }
            Check.due("game of the owner's", x.game(2, way, 2), -2);
        }
        Check.due("game(3, 0, 0), by its own lessons", x.game(3, 0, 0), 1);
        Check.due("game(3, 0, 4), by its own lessons", x.game(3, 0, 4), 0);
        Check.due("game(4, 0, 0)", x.game(4, 0, 0), -2);
        Check.due("game(0, 3, 0)", x.game(0, 3, 0), -2);
        Check.due("game(0, -1, 0)", x.game(0, -1, 0), -2);
        Check.due("game(0, 0, 8)", x.game(0, 0, 8), -2);
    }

    private static void rests() {
        DoorSchool x = Check.made(DoingTest.SCHOOL);
        Check.due("rests(2)", x.rests(2), 4);
        Check.due("rest(2)", x.rest(2), 0);
        Check.due("rests(3), 0 gains by all", x.rests(3), 3);
        Check.due("rest(3)", x.rest(3), 0);
        Check.due("rests(4)", x.rests(4), -2);
        Check.due("rest(4)", x.rest(4), -2);
        String head = "school signs 3 teachers 1;door heart slips 0;owner 2 2;";
        DoorSchool one = Check.made(head + "lesson 0 4 open;");
        Check.due("rests of one lesson", one.rests(0), 3);
        Check.due("rest of one lesson", one.rest(0), 4);
        // By heart the later saying opens, without a rule nothing does, the nearest is the first saying.
        DoorSchool both = Check.made(head + "lesson 0 4 shut;lesson 0 4 open;");
        Check.due("rests of both sayings", both.rests(0), 8);
        Check.due("rest of both sayings", both.rest(0), 100);
        DoorSchool free = Check.made("school signs 3 teachers 1;door heart slips 0;lesson 0 4 open;");
        Check.due("rests without a burglar", free.rests(0), 0);
        Check.due("rest without a burglar", free.rest(0), -1);
    }

    private static void ways() {
        DoorSchool x = Check.made(DoingTest.SCHOOL);
        int[][] due = {{0, 2}, {0, 3}, {2, 2}, {1, 4}};
        for (int door = 0; door < 4; door++) {
            Check.due("way(" + door + ", 0)", x.way(door, 0), due[door][0]);
            Check.due("way(" + door + ", 1)", x.way(door, 1), due[door][1]);
        }
        Check.due("way(4, 0)", x.way(4, 0), -2);
        Check.due("way(0, 2)", x.way(0, 2), -2);
        Check.due("way(0, -1)", x.way(0, -1), -2);
    }

    private static void errors() {
        DoorSchool x = Check.made("school signs 2 teachers 1;");
        int[][] errors = {{16, 12, 12, 8}, {20, 14, 14, 6}, {16, 14, 14, 8}};
        int[][] learnt = {{0, 1, 1, 3}, {1, 2, 2, 4}, {0, 1, 1, 3}};
        for (int way = 0; way < 3; way++) {
            for (int set = 0; set < 4; set++) {
                Check.due("errors(" + way + ", " + set + ")", x.errors(way, set), errors[way][set]);
                Check.due("learnt(" + way + ", " + set + ")", x.learnt(way, set), learnt[way][set]);
            }
            Check.due("errors of all", x.errors(way, 15), 0);
            Check.due("learnt of all", x.learnt(way, 15), 9);
            Check.due("errors beyond", x.errors(way, 16), -2);
            Check.due("errors below", x.errors(way, -1), -2);
            Check.due("learnt beyond", x.learnt(way, 16), -2);
        }
        Check.due("errors(3, 0)", x.errors(3, 0), -2);
        Check.due("errors(-1, 0)", x.errors(-1, 0), -2);
        Check.due("learnt(3, 0)", x.learnt(3, 0), -2);
        Check.due("learnt(-1, 0)", x.learnt(-1, 0), -2);
        DoorSchool y = Check.made("school signs 4 teachers 1;");
        Check.due("learnt of four signs", y.learnt(1, 65535), 81);
        Check.due("errors(0, 0) of four signs", y.errors(0, 0), 256);
        Check.due("errors(0, 65536) of four signs", y.errors(0, 65536), -2);
    }

    private static void next() {
        DoorSchool x = Check.made("school signs 2 teachers 1;");
        Check.due("next(1, 0)", x.next(1, 0), 0);
        Check.due("next(0, 1)", x.next(0, 1), 1);
        Check.due("next(0, 2)", x.next(0, 2), 0);
        Check.due("next(2, 7)", x.next(2, 7), 3);
        Check.due("next(2, 15)", x.next(2, 15), -1);
        Check.due("next(1, 15)", x.next(1, 15), -1);
        Check.due("next(3, 0)", x.next(3, 0), -2);
        Check.due("next(0, 16)", x.next(0, 16), -2);
        Check.due("next(0, -1)", x.next(0, -1), -2);
        // Over three signs it is held against errors(), the least of several kept.
        DoorSchool y = Check.made("school signs 3 teachers 1;");
        for (int way = 0; way < 3; way++) {
            for (int set = 0; set < 255; set++) {
                int best = -1;
                for (int knock = 7; knock >= 0; knock--) {
                    if ((set >> knock & 1) == 0
                            && (best < 0 || y.errors(way, set | 1 << knock) <= y.errors(way, set | 1 << best))) {
                        best = knock;
                    }
                }
                Check.due("next(" + way + ", " + set + ")", y.next(way, set), best);
            }
        }
    }
}
