/** Promises 18 to 26: marks, lessons that are taught and taken back, what they bring. */
public final class ExamsTest {
    public static void main(String[] args) {
        marks();
        bestAndHard();
        teaching();
        gains();
        help();
        idle();
        Check.finish("ExamsTest");
    }

    private static void marks() {
        DoorSchool x = Check.made(DoingTest.SCHOOL);
        int[] wrong = {2, 1, 2, 2};
        for (int door = 0; door < 4; door++) {
            Check.due("marks(" + door + ")", x.marks(door), 3);
            Check.due("wrong(" + door + ")", x.wrong(door), wrong[door]);
        }
        Check.due("marks(4)", x.marks(4), -2);
        Check.due("marks(-1)", x.marks(-1), -2);
        Check.due("wrong(4)", x.wrong(4), -2);
        DoorSchool y = Check.made("school signs 2 teachers 1;door heart slips 0;");
        Check.due("marks without exams", y.marks(0), 0);
        Check.due("wrong without exams", y.wrong(0), -1);
        y.teach(0, 0, 1);
        Check.due("wrong without exams, 0 open", y.wrong(0), -1);
        DoorSchool z = Check.made("school signs 2 teachers 1;door heart slips 0;lesson 0 3 open;exam 3 open;exam 1 shut;exam 3 open;");
        Check.due("marks of all", z.marks(0), 3);
        Check.due("wrong of all right", z.wrong(0), -1);
        z.teach(0, 3, 0);
        Check.due("wrong, the first", z.wrong(0), 0);
        Check.due("marks then", z.marks(0), 1);
    }

    private static void bestAndHard() {
        DoorSchool x = Check.made(DoingTest.SCHOOL);
        Check.due("best(), the first of several", x.best(), 0);
        Check.due("hard()", x.hard(), 0);
        x.teach(1, 2, 0);
        x.train(1, 0, 0);
        // Door 1 by heart opens to 3 alone: exam 5 open is nobody's now.
        Check.due("hard() by heart", x.hard(), 4);
        x.teach(2, 5, 1);
        // Door 2 learns 5 and keeps 7: that is one sign from 6 and from 5, open both.
        Check.due("best() then", x.best(), 2);
        Check.due("hard() then", x.hard(), 0);
        DoorSchool y = Check.made("school signs 2 teachers 1;exam 0 open;exam 1 shut;exam 1 open;");
        Check.due("best() without doors", y.best(), -1);
        Check.due("hard() without doors", y.hard(), 7);
        DoorSchool z = Check.made("school signs 2 teachers 1;door heart slips 0;");
        Check.due("best() without exams", z.best(), 0);
        Check.due("hard() without exams", z.hard(), 0);
        DoorSchool contrary = Check.made("school signs 2 teachers 1;door heart slips 0;exam 1 open;exam 1 shut;exam 2 open;");
        Check.due("hard() of both sayings", contrary.hard(), 5);
    }

    private static void teaching() {
        DoorSchool x = Check.made("school signs 2 teachers 1;door heart slips 0;door heart slips 0;lesson 0 1 open;twin 1 0;");
        Check.due("unteach() of none", x.unteach(), -5);
        Check.due("teach(0, 2, 1)", x.teach(0, 2, 1), 2);
        Check.due("teach(1, 3, 0)", x.teach(1, 3, 0), 1);
        Check.due("teach(0, 1, 0)", x.teach(0, 1, 0), 3);
        Check.due("count(6)", x.count(6), 3);
        Check.due("deeds(0)", x.deeds(0), 4);
        Check.due("deeds(1), a twin", x.deeds(1), 4);
        Check.due("lesson(0, 2, 0)", x.lesson(0, 2, 0), 1);
        Check.due("lesson(0, 2, 1)", x.lesson(0, 2, 1), 0);
        Check.due("teach(2, 0, 0)", x.teach(2, 0, 0), -2);
        Check.due("teach(0, 4, 0)", x.teach(0, 4, 0), -2);
        Check.due("teach(0, -1, 0)", x.teach(0, -1, 0), -2);
        Check.due("teach(0, 0, 2)", x.teach(0, 0, 2), -2);
        Check.due("teach(0, 0, -1)", x.teach(0, 0, -1), -2);
        Check.due("unteach()", x.unteach(), 0);
        Check.due("unteach()", x.unteach(), 1);
        Check.due("deeds(0) then", x.deeds(0), 6);
        Check.due("unteach()", x.unteach(), 0);
        Check.due("unteach() of none left", x.unteach(), -5);
        Check.due("door(0, 2), the text's stay", x.door(0, 2), 1);
        for (int i = 2; i <= 12; i++) {
            Check.due("teach to " + i, x.teach(0, 3, 1), i);
        }
        Check.due("a thirteenth", x.teach(0, 3, 1), -3);
        Check.due("a thirteenth of no knock", x.teach(0, 4, 1), -2);
        Check.due("count(6) of eleven", x.count(6), 11);
        Check.due("unteach() of the twelfth", x.unteach(), 0);
        Check.due("a twelfth again", x.teach(0, 0, 1), 12);
        Check.due("deeds(0) with it", x.deeds(0), 11);
    }

    private static void gains() {
        DoorSchool x = Check.made("school signs 2 teachers 1;door heart slips 0;door shortest slips 0;door heart slips 0;"
                + "lesson 0 1 open;twin 2 0;exam 1 open;exam 2 open;exam 2 open;exam 3 shut;");
        Check.due("gains(0, 2, 1)", x.gains(0, 2, 1), 2);
        Check.due("gains(0, 1, 0)", x.gains(0, 1, 0), -1);
        Check.due("gains(0, 0, 1)", x.gains(0, 0, 1), 0);
        // All are right but the last; with 3 shut, rule 1 0 opens to 0 and 2: 1 is lost, 3 won.
        Check.due("gains(1, 3, 0)", x.gains(1, 3, 0), 0);
        Check.due("gains(2, 2, 1), a twin", x.gains(2, 2, 1), 0);
        Check.due("gains changes nothing", x.door(0, 2), 1);
        Check.due("gains(3, 0, 0)", x.gains(3, 0, 0), -1000);
        Check.due("gains(0, 4, 0)", x.gains(0, 4, 0), -1000);
        Check.due("gains(0, 0, 2)", x.gains(0, 0, 2), -1000);
        Check.due("gains(0, 0, -1)", x.gains(0, 0, -1), -1000);
        for (int i = 0; i < 11; i++) {
            x.teach(0, 0, 0);
        }
        Check.due("gains(0, 2, 1) with twelve", x.gains(0, 2, 1), 2);
        Check.due("twelve as before", x.door(0, 2), 12);
        Check.due("deeds as before", x.deeds(0), 2);
    }

    private static void help() {
        DoorSchool x = Check.made("school signs 2 teachers 1;door heart slips 0;door shortest slips 0;door heart slips 0;"
                + "lesson 0 1 open;twin 2 0;exam 1 open;exam 2 open;exam 2 open;exam 3 open;exam 3 open;");
        Check.due("help(0), the least of two", x.help(0), 5);
        Check.due("help(1), all right", x.help(1), -1);
        Check.due("help(2), a twin", x.help(2), -1);
        Check.due("help(3)", x.help(3), -2);
        Check.due("help(-1)", x.help(-1), -2);
        x.teach(0, 2, 1);
        Check.due("help(0) then", x.help(0), 7);
        x.teach(0, 3, 1);
        Check.due("help(0) at last", x.help(0), -1);
        DoorSchool y = Check.made("school signs 2 teachers 1;door heart slips 0;lesson 0 0 open;exam 0 shut;");
        Check.due("help by shutting", y.help(0), 0);
    }

    private static void idle() {
        DoorSchool x = Check.made("school signs 2 teachers 1;door heart slips 0;door nearest slips 0;door shortest slips 0;"
                + "door heart slips 0;lesson 0 1 shut;lesson 0 1 open;lesson 0 2 shut;lesson 0 3 open;lesson 0 3 open;"
                + "lesson 1 0 open;lesson 1 1 open;lesson 1 2 shut;lesson 2 0 open;lesson 2 1 shut;lesson 2 0 open;"
                + "lesson 3 3 open;lesson 3 2 open;twin 3 2;");
        // By heart: the first of 1 is overruled, 2 is shut anyway, and each of 3's stands for the other.
        Check.due("idle(0)", x.idle(0), 0b11101);
        // Nearest: 0 and 1 open, 2 shut; 3 lies by 1 first. Without 0, knock 0 goes by 1; without 1, 1 goes by 0 but 3 by 2.
        Check.due("idle(1)", x.idle(1), 0b001);
        // Shortest: 0 is told twice; without 1 shut it opens to all.
        Check.due("idle(2)", x.idle(2), 0b101);
        Check.due("idle(3), a twin", x.idle(3), 0b11);
        Check.due("idle(4)", x.idle(4), -2);
        Check.due("lessons stay in order", x.lesson(0, 2, 0), 2);
        Check.due("lessons stay in order", x.lesson(0, 1, 1), 1);
        Check.due("lessons stay as many", x.door(0, 2), 5);
        DoorSchool y = Check.made("school signs 2 teachers 1;door heart slips 0;");
        Check.due("idle() without lessons", y.idle(0), 0);
    }
}
