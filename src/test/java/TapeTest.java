/** Promises 1 to 5: a new object, the tape, reading a school, faults. */
public final class TapeTest {
    private static final String HEAD = "school signs 2 teachers 1;";
    private static final String DOOR = "door heart slips 0;";

    public static void main(String[] args) {
        newObject();
        feeding();
        ending();
        reading();
        readingInPlaceOfAnother();
        faultAnswers();
        faultsOfTokens();
        faultsOfNumbers();
        faultsOfTooMany();
        Check.finish("TapeTest");
    }

    private static void newObject() {
        DoorSchool x = new DoorSchool();
        Check.due("NONE", DoorSchool.NONE, -1);
        for (int what = 0; what < 10; what++) {
            Check.due("count(" + what + ") at first", x.count(what), 0);
        }
        Check.due("best() at first", x.best(), -2);
        Check.due("door(0, 0) at first", x.door(0, 0), -2);
        Check.due("house(-1, 0) at first", x.house(-1, 0), -2);
        Check.due("does(0, 0) at first", x.does(0, 0), -2);
        Check.due("told(1, 0) at first", x.told(1, 0), -2);
        Check.due("easiest(0) at first", x.easiest(0), -2);
        Check.due("sets(0, 0, 0) at first", x.sets(0, 0, 0), -2);
        Check.due("owns(0, 0) at first", x.owns(0, 0), -2);
        Check.due("exam(0, 0) at first", x.exam(0, 0), -2);
        Check.due("begins(0) at first", x.begins(0), -2);
        Check.due("fits(0) at first", x.fits(0), -2);
        Check.due("next(0, 0) at first", x.next(0, 0), -2);
        Check.due("storm(0, 0, 0) at first", x.storm(0, 0, 0), -2);
    }

    private static void feeding() {
        DoorSchool x = new DoorSchool();
        for (int i = 1; i <= 80; i++) {
            Check.due("feed " + i, x.feed(i, i, i, i, i), 20 * i);
        }
        Check.due("feed beyond 1,600", x.feed(0, 0, 0, 0, 0), -1);
        Check.due("count(8) after that", x.count(8), 1600);
        x.end(1581);
        Check.due("feed to 1,601", x.feed(0, 0, 0, 0, 0), -1);
        x.end(1580);
        Check.due("feed to 1,600", x.feed(0, 0, 0, 0, 0), 1600);

        DoorSchool y = new DoorSchool();
        // "scho" "ol s" "igns" " 4 t" "each", then "ers " "3;\n " " \n  " and blanks: the highest byte comes first.
        Check.due("feed", y.feed(0x7363686f, 0x6f6c2073, 0x69676e73, 0x20342074, 0x65616368), 20);
        Check.due("feed", y.feed(0x65727320, 0x333b0a20, 0x200a2020, 0x20202020, 0x20202020), 40);
        Check.due("school of that", y.school(), 1);
        Check.due("its signs", y.count(0), 4);
        Check.due("its teachers", y.count(1), 3);

        // Bytes above 127 are kept, and are no tokens.
        y.feed(0xe9202020, 0, 0, 0, 0);
        Check.due("school of byte 233", y.school(), -4);
        Check.due("fault of byte 233", y.fault(0), 1);
        Check.due("place of byte 233", y.fault(1), 0);
    }

    private static void ending() {
        DoorSchool x = new DoorSchool();
        Check.due("end(0) of nothing", x.end(0), 0);
        Check.due("end(1) of nothing", x.end(1), -1);
        Check.feed(x, HEAD + DOOR);
        Check.due("end(46)", x.end(46), -1);
        Check.due("end(-1)", x.end(-1), -1);
        Check.due("end(min)", x.end(Integer.MIN_VALUE), -1);
        Check.due("end(max)", x.end(Integer.MAX_VALUE), -1);
        Check.due("count(8) as before", x.count(8), 45);
        Check.due("end(45)", x.end(45), 45);
        Check.due("end(26)", x.end(26), 26);
        Check.due("count(8)", x.count(8), 26);
        Check.due("end(45) of 26", x.end(45), -1);
        Check.due("school of the head", x.school(), 1);
        Check.due("doors of the head", x.count(2), 0);
    }

    private static void reading() {
        DoorSchool x = new DoorSchool();
        Check.due("empty tape", x.school(), 0);
        Check.due("blanks alone", Check.school(x, " \n  \n"), 0);
        Check.due("head alone", Check.school(x, HEAD), 1);
        Check.due("empty tape afterwards", x.count(8), 0);
        Check.due("tokens without blanks", Check.school(x, "school signs4teachers3;door heart slips50;exam15open;"), 3);
        Check.due("slips of that", x.door(0, 1), 50);
        Check.due("exam of that", x.exam(0, 0), 15);
        Check.due("new lines, numbers with zeros", Check.school(x, "\n school\nsigns 0000000000000000002\n\nteachers 01 ; "), 1);
        Check.due("signs of that", x.count(0), 2);
        String all = HEAD + DOOR + "door shortest slips 1;door nearest slips 2;lesson 1 3 open;exam 2 shut;twin 2 0;"
                + "owner 3 2;house 1 0;course takes 9;course takes 1;ahead 0 1;owner 1 1;";
        Check.due("all kinds of lines", Check.school(x, all), 13);
        Check.due("the later owner's signs", x.house(-1, 0), 1);
        Check.due("the later owner's there", x.house(-1, 1), 1);
        Check.due("without an owner", Check.school(x, HEAD), 1);
        Check.due("the owner's signs", x.house(-1, 0), 0);
        Check.due("the owner's there", x.house(-1, 1), 0);
        Check.due("the owner's knocks", x.house(-1, 2), 4);
        StringBuilder most = new StringBuilder(HEAD);
        for (int i = 0; i < 174; i++) {
            most.append("owner0 0;");
        }
        Check.due("as many lines as go on a tape", Check.school(x, most.toString()), 175);
    }

    private static void readingInPlaceOfAnother() {
        DoorSchool x = Check.made("school signs 3 teachers 2;" + DOOR + "lesson 0 7 open;exam 7 open;owner 4 4;house 0 0;"
                + "course takes 2;course takes 2;ahead 0 1;");
        x.teach(0, 6, 1);
        Check.due("a faulty text", Check.school(x, HEAD + "door"), -4);
        Check.due("tape after a fault", x.count(8), 0);
        int[] kept = {3, 2, 1, 1, 1, 2, 1, 9, 0, 0};
        for (int what = 0; what < 10; what++) {
            Check.due("count(" + what + ") after a fault", x.count(what), kept[what]);
        }
        Check.due("deeds after a fault", x.deeds(0), 192);
        Check.due("owner after a fault", x.house(-1, 0), 4);
        Check.due("another school", Check.school(x, HEAD + DOOR + "course takes 3;course takes 3;course takes 3;"), 5);
        int[] then = {2, 1, 1, 0, 0, 3, 0, 5, 0, 0};
        for (int what = 0; what < 10; what++) {
            Check.due("count(" + what + ") of another", x.count(what), then[what]);
        }
        Check.due("lessons of another", x.door(0, 2), 0);
        Check.due("copies of another", x.door(0, 3), -1);
        Check.due("owner of another", x.house(-1, 0), 0);
        Check.due("taught in another", x.unteach(), -5);
        Check.due("nothing is ahead in another", x.hours(), 9);
        Check.school(x, HEAD + "course takes 3;course takes 3;course takes 3;");
        Check.due("nor in a third", x.begins(1), 3);
        // What two whole schools had does not come back in a bare one.
        String rich = "school signs 4 teachers 3;" + DOOR + "lesson 0 1 open;exam 1 open;owner 3 3;house 3 3;"
                + "course takes 3;course takes 3;ahead 0 1;";
        Check.due("a whole one", Check.school(x, rich), 9);
        x.teach(0, 1, 0);
        Check.due("a whole one again", Check.school(x, rich), 9);
        x.teach(0, 1, 0);
        Check.due("a bare one", Check.school(x, HEAD), 1);
        int[] bare = {2, 1, 0, 0, 0, 0, 0, 1, 0, 0};
        for (int what = 0; what < 10; what++) {
            Check.due("count(" + what + ") of a bare one", x.count(what), bare[what]);
        }
        Check.due("its owner's signs", x.house(-1, 0), 0);
        Check.due("its owner's there", x.house(-1, 1), 0);
        Check.due("hard() of a bare one", x.hard(), 0);
        Check.due("a second bare one", Check.school(x, HEAD + DOOR + "course takes 3;course takes 3;"), 4);
        Check.due("its lessons", x.door(0, 2), 0);
        Check.due("its begins(1)", x.begins(1), 3);
        Check.due("a third bare one", Check.school(x, HEAD.replace('1', '2') + DOOR + "course takes 3;course takes 3;"), 4);
        Check.due("its begins(1)", x.begins(1), 0);
        Check.due("no school again", x.school(), 0);
        Check.due("count(1) then", x.count(1), 0);
        Check.due("best() then", x.best(), -2);
        Check.due("count(0) then", x.count(0), 0);
        Check.due("count(7) then", x.count(7), 0);
        Check.due("unteach() then", x.unteach(), -2);
    }

    private static void faultAnswers() {
        DoorSchool x = new DoorSchool();
        Check.due("fault(0) at first", x.fault(0), 0);
        Check.due("fault(1) at first", x.fault(1), -1);
        Check.due("fault(2)", x.fault(2), -1);
        Check.due("fault(-1)", x.fault(-1), -1);
        Check.school(x, "school signs 9");
        Check.due("fault(0)", x.fault(0), 2);
        Check.due("fault(1)", x.fault(1), 13);
        Check.due("fault(2) of a fault", x.fault(2), -1);
        Check.school(x, HEAD);
        Check.due("fault(0) without", x.fault(0), 0);
        Check.due("fault(1) without", x.fault(1), -1);
    }

    private static void fault(String ahead, String rest, int what) {
        DoorSchool x = new DoorSchool();
        Check.due("school of " + ahead + rest, Check.school(x, ahead + rest), -4);
        Check.due("fault of " + ahead + rest, x.fault(0), what);
        Check.due("place in " + ahead + rest, x.fault(1), ahead.length());
    }

    private static void faultsOfTokens() {
        fault("", "door heart slips 0;", 1);
        fault(" \n", "School signs 2 teachers 1;", 1);
        fault("", ";", 1);
        fault("", "2", 1);
        fault("school ", "teachers 1;", 1);
        fault("school signs ", "two teachers 1;", 1);
        fault("school signs 2 ", "signs 2;", 1);
        fault("school signs 2 teachers 1", "", 1);
        fault("school signs 2 teachers 1 \n ", "", 1);
        fault("school signs 2 teachers 1 ", "3;", 1);
        fault("", "schools signs 2 teachers 1;", 1);
        fault("", "schoo signs 2 teachers 1;", 1);
        fault("", "schoolsigns 2 teachers 1;", 1);
        fault(HEAD, HEAD, 1);
        fault(HEAD, ";", 1);
        fault(HEAD, "17;", 1);
        fault(HEAD, "\tdoor heart slips 0;", 1);
        fault(HEAD, "\rdoor heart slips 0;", 1);
        fault(HEAD, "doors heart slips 0;", 1);
        fault(HEAD, "poor heart slips 0;", 1);
        fault(HEAD, "doorz heart slips 0;", 1);
        fault(HEAD, "adoor heart slips 0;", 1);
        fault(HEAD + "door ", "opens slips 0;", 1);
        fault(HEAD + "door ", "0 slips 0;", 1);
        fault(HEAD + "door heart ", "slip 0;", 1);
        fault(HEAD + "door heart slips ", "heart;", 1);
        fault(HEAD + "door heart slips 0", "", 1);
        fault(HEAD + "door heart slips 0 ", "door heart slips 0;", 1);
        fault(HEAD + DOOR + "lesson ", "open;", 1);
        fault(HEAD + DOOR + "lesson 0 ", ";", 1);
        fault(HEAD + DOOR + "lesson 0 1 ", "1;", 1);
        fault(HEAD + DOOR + "lesson 0 1 ", "opens;", 1);
        fault(HEAD + DOOR + "lesson 0 1 open ", "shut;", 1);
        fault(HEAD + DOOR + "lesson 0 1 open", "-", 1);
        fault(HEAD + "exam ", "open;", 1);
        fault(HEAD + "exam 1 ", "heart;", 1);
        fault(HEAD + DOOR + DOOR + "twin 0", ";", 1);
        fault(HEAD + DOOR + DOOR + "twin 0 1 ", "0;", 1);
        fault(HEAD + "owner 1", ";", 1);
        fault(HEAD + "house ", "heart;", 1);
        fault(HEAD + "course ", "2;", 1);
        fault(HEAD + "course takes ", ";", 1);
        fault(HEAD + "course takes 2;course takes 2;ahead 0", ";", 1);
        fault(HEAD + "course takes 2;course takes 2;ahead 0 1", "", 1);
    }

    private static void faultsOfNumbers() {
        fault("school signs ", "1 teachers 1;", 2);
        fault("school signs ", "5 teachers 1;", 2);
        fault("school signs 2 teachers ", "0;", 2);
        fault("school signs 2 teachers ", "4;", 2);
        fault("school signs ", "4294967298 teachers 1;", 2);
        fault("school signs ", "18446744073709551618 teachers 1;", 2);
        fault(HEAD + "door heart slips ", "51;", 2);
        fault(HEAD + "lesson ", "0 0 open;", 2);
        fault(HEAD + DOOR + "lesson ", "1 0 open;", 2);
        fault(HEAD + DOOR + "lesson 0 ", "4 open;", 2);
        fault("school signs 4 teachers 1;" + DOOR + "lesson 0 15 open;lesson 0 ", "16 open;", 2);
        fault(HEAD + "exam ", "4 shut;", 2);
        fault(HEAD + "twin ", "0 1;", 2);
        fault(HEAD + DOOR + "twin 0 ", "1;", 2);
        fault(HEAD + DOOR + DOOR + "twin ", "2 1;", 2);
        fault(HEAD + DOOR + DOOR + "twin 1 ", "1;", 2);
        fault(HEAD + DOOR + DOOR + DOOR + "twin 0 1;twin ", "0 2;", 2);
        fault(HEAD + DOOR + DOOR + DOOR + "twin 0 1;twin ", "1 2;", 2);
        fault(HEAD + DOOR + DOOR + DOOR + "twin 0 1;twin 2 ", "0;", 2);
        fault(HEAD + "owner ", "4 0;", 2);
        fault(HEAD + "owner 3 ", "4;", 2);
        fault(HEAD + "owner 2 ", "1;", 2);
        fault(HEAD + "owner 0 ", "99;", 2);
        fault(HEAD + "house ", "4 0;", 2);
        fault(HEAD + "house 1 ", "3;", 2);
        fault(HEAD + "course takes ", "0;", 2);
        fault(HEAD + "course takes ", "10;", 2);
        fault(HEAD + "ahead ", "0 1;", 2);
        fault(HEAD + "course takes 1;ahead ", "1 2;", 2);
        fault(HEAD + "course takes 1;ahead 0 ", "1;", 2);
        fault(HEAD + "course takes 1;course takes 1;ahead 1 ", "0;", 2);
        fault(HEAD + "course takes 1;course takes 1;ahead 1 ", "1;", 2);
        Check.due("the greatest rule", Check.school(new DoorSchool(), "school signs 4 teachers 1;owner 15 15;house 15 15;"), 3);
        Check.due("several copy one", Check.school(new DoorSchool(),
                HEAD + DOOR + DOOR + DOOR + DOOR + "twin 0 1;twin 3 1;twin 2 1;"), 8);
    }

    private static void faultsOfTooMany() {
        String lesson = "lesson 0 1 open;";
        fault(HEAD + DOOR + DOOR + lesson.repeat(12) + "lesson 1 1 open;lesson ", "0 9 open;", 3);
        fault(HEAD + DOOR.repeat(4), "door", 3);
        fault(HEAD + "exam 0 open;".repeat(12), "exam x;", 3);
        fault(HEAD + "house 0 0;".repeat(4), "house 9;", 3);
        fault(HEAD + "course takes 9;".repeat(6), "course;", 3);
        Check.due("just as many as there may be", Check.school(new DoorSchool(), HEAD + DOOR.repeat(4)
                + lesson.repeat(12) + "exam 0 open;".repeat(12) + "house 0 0;".repeat(4) + "course takes 9;".repeat(6)), 39);
    }
}
