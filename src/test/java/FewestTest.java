/** Promises 27 to 30: fewest lessons. */
public final class FewestTest {
    public static void main(String[] args) {
        heart();
        shortest();
        nearest();
        easiest();
        wrongInputs();
        Check.finish("FewestTest");
    }

    private static void heart() {
        DoorSchool x = Check.made("school signs 3 teachers 1;");
        Check.due("fewest(0, 132)", x.fewest(0, 132), 2);
        Check.due("course(0, 132)", x.course(0, 132), 132);
        Check.due("fewest(0, 0)", x.fewest(0, 0), 0);
        Check.due("course(0, 0)", x.course(0, 0), 0);
        Check.due("fewest(0, 255)", x.fewest(0, 255), 8);
        // Any of the six other knocks may be told besides.
        Check.due("sets(0, 132, 1)", x.sets(0, 132, 1), 0);
        Check.due("sets(0, 132, 2)", x.sets(0, 132, 2), 1);
        Check.due("sets(0, 132, 4)", x.sets(0, 132, 4), 15);
        Check.due("sets(0, 132, 8)", x.sets(0, 132, 8), 1);
        Check.due("sets(0, 132, 9)", x.sets(0, 132, 9), 0);
        Check.due("sets(0, 0, 0)", x.sets(0, 0, 0), 1);
        DoorSchool y = Check.made("school signs 4 teachers 1;");
        Check.due("course(0, 65535)", y.course(0, 65535), 65535);
        Check.due("fewest(0, 40000)", y.fewest(0, 40000), 5);
        Check.due("sets(0, 0, 8) of four signs", y.sets(0, 0, 8), 12870);
    }

    private static void shortest() {
        DoorSchool x = Check.made("school signs 2 teachers 1;");
        Check.due("fewest(1, 15), unlearned", x.fewest(1, 15), 0);
        Check.due("course(1, 15)", x.course(1, 15), 0);
        Check.due("fewest(1, 6), no rule", x.fewest(1, 6), -1);
        Check.due("course(1, 6), no rule", x.course(1, 6), -1);
        Check.due("sets(1, 6, 2), no rule", x.sets(1, 6, 2), 0);
        Check.due("fewest(1, 0), all shut", x.fewest(1, 0), 4);
        Check.due("sets(1, 0, 3)", x.sets(1, 0, 3), 0);
        Check.due("sets(1, 0, 4)", x.sets(1, 0, 4), 1);
        // Rule 2 2 (12) comes behind 0 0, 1 0, 1 1 and 2 0: 0 shut leaves 1 1 and 2 2, and 2 open or 1 shut tells them apart.
        Check.due("fewest(1, 12)", x.fewest(1, 12), 2);
        Check.due("course(1, 12)", x.course(1, 12), 3);
        Check.due("sets(1, 12, 2)", x.sets(1, 12, 2), 3);
        DoorSchool y = Check.made("school signs 4 teachers 1;");
        Check.due("fewest(1, 0) of four signs", y.fewest(1, 0), 16);
        Check.due("course(1, 0) of four signs", y.course(1, 0), 65535);
        Check.due("fewest(1, 6) of four signs", y.fewest(1, 6), -1);
        Check.due("sets(1, 0, 16) of four signs", y.sets(1, 0, 16), 1);
    }

    private static void nearest() {
        DoorSchool x = Check.made("school signs 2 teachers 1;");
        Check.due("fewest(2, 0)", x.fewest(2, 0), 0);
        Check.due("fewest(2, 15)", x.fewest(2, 15), 1);
        Check.due("course(2, 15)", x.course(2, 15), 1);
        Check.due("sets(2, 15, 1)", x.sets(2, 15, 1), 4);
        // By 0 and 1 (or 2 and 3) the others go rightly; told 0 and 3, 1 ties and goes by 0; told 1 and 2, 0 goes by 1.
        Check.due("fewest(2, 10)", x.fewest(2, 10), 2);
        Check.due("course(2, 10)", x.course(2, 10), 3);
        Check.due("sets(2, 10, 2)", x.sets(2, 10, 2), 2);
        // Of 6 each knock has two neighbours that do the other thing: all must be told.
        Check.due("fewest(2, 6)", x.fewest(2, 6), 4);
        Check.due("course(2, 6)", x.course(2, 6), 15);
        Check.due("sets(2, 6, 3)", x.sets(2, 6, 3), 0);
        DoorSchool y = Check.made("school signs 4 teachers 1;");
        Check.due("parity of four signs", y.fewest(2, 0x6996), 16);
        Check.due("sets(2, 65535, 2)", y.sets(2, 65535, 2), 120);
    }

    private static void easiest() {
        DoorSchool x = Check.made("school signs 2 teachers 1;");
        Check.due("easiest(0)", x.easiest(0), 0);
        Check.due("easiest(15)", x.easiest(15), 1);
        Check.due("easiest(10)", x.easiest(10), 1);
        Check.due("easiest(6)", x.easiest(6), 0);
        // 14: three by heart, no rule, three by what is nearest (7): the first of several.
        Check.due("fewest(2, 14)", x.fewest(2, 14), 3);
        Check.due("easiest(14)", x.easiest(14), 0);
        // Seven of eight: one lesson shut and some around it do, by what is nearest.
        DoorSchool y = Check.made("school signs 3 teachers 1;");
        Check.due("fewest(0, 254)", y.fewest(0, 254), 7);
        Check.due("fewest(2, 254)", y.fewest(2, 254), 4);
        Check.due("course(2, 254)", y.course(2, 254), 23);
        Check.due("easiest(254)", y.easiest(254), 2);
    }

    private static void wrongInputs() {
        DoorSchool x = Check.made("school signs 2 teachers 1;");
        int[][] wrong = {{-1, 0}, {3, 0}, {0, -1}, {0, 16}, {0, Integer.MAX_VALUE}, {0, Integer.MIN_VALUE}};
        for (int[] w : wrong) {
            Check.due("fewest" + w[0] + " " + w[1], x.fewest(w[0], w[1]), -2);
            Check.due("course" + w[0] + " " + w[1], x.course(w[0], w[1]), -2);
            Check.due("sets" + w[0] + " " + w[1], x.sets(w[0], w[1], 1), -2);
        }
        Check.due("sets(0, 0, -1)", x.sets(0, 0, -1), -2);
        Check.due("sets(0, 0, 17)", x.sets(0, 0, 17), -2);
        Check.due("sets(0, 0, 16)", x.sets(0, 0, 16), 0);
        Check.due("easiest(16)", x.easiest(16), -2);
        Check.due("easiest(-1)", x.easiest(-1), -2);
        DoorSchool y = Check.made("school signs 4 teachers 1;");
        Check.due("fewest(0, 65536)", y.fewest(0, 65536), -2);
        Check.due("easiest(65536)", y.easiest(65536), -2);
    }
}
