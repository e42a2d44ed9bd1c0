/** Promises 53 to 59: courses by teachers, what is changed from now on, storms. */
public final class CoursesTest {
    public static void main(String[] args) {
        courses();
        wrongCourses();
        training();
        owning();
        storms();
        years();
        Check.finish("CoursesTest");
    }

    private static void table(String courses, int teachers, int sooner, int hours, int... begins) {
        StringBuilder text = new StringBuilder("school signs 2 teachers " + teachers + ";");
        for (String course : courses.split(" ")) {
            text.append(course.contains("-") ? "ahead " + course.replace('-', ' ') + ";" : "course takes " + course + ";");
        }
        DoorSchool x = Check.made(text.toString());
        String of = courses + " by " + teachers;
        Check.due("hours of " + of, x.hours(), hours);
        Check.due("teacher of " + of, x.teacher(), sooner);
        for (int course = 0; course < begins.length; course++) {
            Check.due("begins(" + course + ") of " + of, x.begins(course), begins[course]);
        }
        Check.due("hours of " + of + " again", x.hours(), hours);
    }

    private static void courses() {
        table("3 2 4 0-2", 2, 0, 7, 0, 0, 3);
        table("3 3 3", 1, 3, 9, 0, 3, 6);
        table("7", 3, 0, 7, 0);
        // Both threes at once would leave no room for the twos.
        table("3 3 2 2 2", 2, 1, 6, 0, 3, 0, 2, 4);
        // Course 1 has to wait for 2, which is ahead of the long one.
        table("4 4 1 7 2-3", 2, 0, 8, 0, 4, 0, 1);
        table("9 9 9 9 9 9", 1, 27, 54, 0, 9, 18, 27, 36, 45);
        table("9 9 9 9 9 9 0-1 1-2 2-3 3-4 4-5", 3, 0, 54, 0, 9, 18, 27, 36, 45);
        table("5 5 5 5", 3, 5, 10, 0, 0, 0, 5);
        table("1 2 3 0-2 0-2 1-2", 1, 1, 6, 0, 1, 3);
        // Without a break: the four hours do not fit ahead of course 1.
        table("1 2 4 0-1", 1, 3, 7, 0, 1, 3);
        table("2 3 1 1 1-3", 2, 0, 4, 0, 0, 2, 3);
        table("6 1 1 1 1 1 1-5 2-5 3-5 4-5", 2, 0, 6, 0, 0, 1, 2, 3, 4);
        // Of the tables that are over in four hours the first is not the one that puts each course early.
        table("2 2 1 1 2 3-4", 2, 1, 4, 0, 1, 3, 0, 2);
        table("3 2 3 2 3 3-4 2-4", 2, 1, 7, 2, 5, 0, 0, 3);
        // What is ahead comes first, also where it is of no use by itself.
        table("4 2 3 4 0-3 1-3", 2, 0, 8, 0, 0, 2, 4);
        table("2 1 1 3 2 0-4 3-4", 2, 0, 5, 0, 2, 3, 0, 3);
    }

    private static void wrongCourses() {
        DoorSchool x = Check.made("school signs 2 teachers 3;");
        Check.due("hours of no courses", x.hours(), 0);
        Check.due("teacher of no courses", x.teacher(), 0);
        Check.due("begins(0) of no courses", x.begins(0), -2);
        Check.school(x, "school signs 2 teachers 3;course takes 2;");
        Check.due("begins(0)", x.begins(0), 0);
        Check.due("begins(1)", x.begins(1), -2);
        Check.due("begins(-1)", x.begins(-1), -2);
        x.school();
        Check.due("hours() without a school", x.hours(), -2);
        Check.due("begins(0) without a school", x.begins(0), -2);
        Check.due("teacher() without a school", x.teacher(), -2);
    }

    private static void training() {
        DoorSchool x = Check.made(DoingTest.SCHOOL);
        Check.due("train(0, 0, 2)", x.train(0, 0, 2), 0);
        Check.due("deeds(0), nearest", x.deeds(0), 255);
        Check.due("train(0, 0, 1)", x.train(0, 0, 1), 2);
        Check.due("deeds(0), shortest", x.deeds(0), 0);
        Check.due("door(0, 0)", x.door(0, 0), 1);
        Check.due("train(3, 0, 0)", x.train(3, 0, 0), 2);
        Check.due("deeds(3), a twin", x.deeds(3), 212);
        Check.due("train(0, 1, 50)", x.train(0, 1, 50), 10);
        Check.due("train(0, 1, 0)", x.train(0, 1, 0), 50);
        Check.due("door(0, 1)", x.door(0, 1), 0);
        Check.due("train(0, 0, 3)", x.train(0, 0, 3), -2);
        Check.due("train(0, 0, -1)", x.train(0, 0, -1), -2);
        Check.due("train(0, 1, 51)", x.train(0, 1, 51), -2);
        Check.due("train(0, 1, -1)", x.train(0, 1, -1), -2);
        Check.due("train(0, 2, 0)", x.train(0, 2, 0), -2);
        Check.due("train(4, 0, 0)", x.train(4, 0, 0), -2);
        Check.due("train(-1, 1, 0)", x.train(-1, 1, 0), -2);
    }

    private static void owning() {
        DoorSchool x = Check.made(DoingTest.SCHOOL);
        Check.due("owns(6, 4)", x.owns(6, 4), 204);
        Check.due("house(-1, 0)", x.house(-1, 0), 6);
        Check.due("house(-1, 1)", x.house(-1, 1), 4);
        Check.due("fooled(2, 0)", x.fooled(2, 0), 196);
        Check.due("owns(0, 0)", x.owns(0, 0), 48);
        Check.due("owns(7, 7)", x.owns(7, 7), 255);
        Check.due("owns(8, 0)", x.owns(8, 0), -2);
        Check.due("owns(1, 2)", x.owns(1, 2), -2);
        Check.due("owns(-1, 0)", x.owns(-1, 0), -2);
        Check.due("owns(0, -1)", x.owns(0, -1), -2);
        Check.due("house(-1, 0) as before", x.house(-1, 0), 7);
        Check.due("fooled by all but 7", x.fooled(0, 0), 4);
    }

    private static void storms() {
        DoorSchool x = Check.made(DoingTest.SCHOOL);
        // Seed 1 draws 38 58 13 15 51 27 10 19.
        int[][] due = {{132, 3, 0}, {0, 0, 0}, {56, 2, 5}, {57, 1, 6}};
        for (int door = 0; door < 4; door += door == 0 ? 2 : 1) {
            for (int what = 0; what < 3; what++) {
                Check.due("storm(1, " + door + ", " + what + ")", x.storm(1, door, what), due[door][what]);
            }
        }
        x.train(0, 1, 11);
        Check.due("storm of 11 slips", x.storm(1, 0, 0), 196);
        x.train(0, 1, 0);
        Check.due("storm without slips", x.storm(0, 0, 0), 132);
        x.train(0, 1, 10);
        // Seed 0 draws 0 first, 2,000,000,000 draws 4 33 21 7 26 92 57 97.
        Check.due("storm(0, 0, 0)", x.storm(0, 0, 0), 133);
        Check.due("storm(0, 0, 1)", x.storm(0, 0, 1), 2);
        Check.due("storm(2000000000, 0, 0)", x.storm(2000000000, 0, 0), 141);
        Check.due("storm(2000000000, 0, 2)", x.storm(2000000000, 0, 2), 2);
        Check.due("deeds as before", x.deeds(0), 132);
        Check.due("storm(2000000001, 0, 0)", x.storm(2000000001, 0, 0), -2);
        Check.due("storm(-1, 0, 0)", x.storm(-1, 0, 0), -2);
        Check.due("storm(0, 4, 0)", x.storm(0, 4, 0), -2);
        Check.due("storm(0, 0, 3)", x.storm(0, 0, 3), -2);
        Check.due("storm(0, 0, -1)", x.storm(0, 0, -1), -2);
    }

    private static void years() {
        DoorSchool x = Check.made(DoingTest.SCHOOL);
        // Door 0 slips at an exam's knock from seeds 0 and 2 alone, of the seeds 0 .. 7.
        Check.due("years(0, 8, 0, 3)", x.years(0, 8, 0, 3), 6);
        Check.due("years(0, 8, 0, 2)", x.years(0, 8, 0, 2), 8);
        Check.due("years(0, 8, 0, 4)", x.years(0, 8, 0, 4), 0);
        Check.due("years(0, 1, 0, 3)", x.years(0, 1, 0, 3), 0);
        Check.due("years(1, 1, 0, 3)", x.years(1, 1, 0, 3), 1);
        Check.due("years(0, 3, 0, 3)", x.years(0, 3, 0, 3), 1);
        Check.due("years(0, 20, 0, -7)", x.years(0, 20, 0, -7), 20);
        Check.due("years(0, 20, 0, max)", x.years(0, 20, 0, Integer.MAX_VALUE), 0);
        Check.due("years(2000000000, 20, 0, 0)", x.years(2000000000, 20, 0, 0), 20);
        Check.due("years(2000000001, 1, 0, 0)", x.years(2000000001, 1, 0, 0), -2);
        Check.due("years(-1, 1, 0, 0)", x.years(-1, 1, 0, 0), -2);
        Check.due("years(0, 0, 0, 0)", x.years(0, 0, 0, 0), -2);
        Check.due("years(0, 21, 0, 0)", x.years(0, 21, 0, 0), -2);
        Check.due("years(0, 1, 4, 0)", x.years(0, 1, 4, 0), -2);
        Check.due("years(0, 1, -1, 0)", x.years(0, 1, -1, 0), -2);
    }
}
