/** Promises 43 to 52: who does the same, twins, graduates hung, rules read from a row. */
public final class TwinsTest {
    public static void main(String[] args) {
        same();
        alike();
        copying();
        hanging();
        fits();
        sureAndAsked();
        rowsThatAreNotSo();
        Check.finish("TwinsTest");
    }

    private static void same() {
        DoorSchool x = Check.made(DoingTest.SCHOOL);
        Check.due("same(0) of nothing", x.same(0), -6);
        long[][] rows = {{7, 1}, {2, 1}, {2, 1, 4, 0}, {1, 0, 4, 1}, {7, 1, 7, 0}, {}, {0, 0, 0, 0}, {3, 1}};
        int[] due = {15, 13, 1, 12, 0, 15, 15, 2};
        for (int i = 0; i < rows.length; i++) {
            Check.row(x, i % 4, rows[i]);
            Check.due("same of row " + i, x.same(i % 4), due[i]);
        }
        x.row(0, 3, 2);
        x.write(0, 0, 2);
        x.write(0, 1, 1);
        Check.due("same of eight bytes", x.same(0), 13);
        DoorSchool y = Check.made("school signs 2 teachers 1;");
        Check.row(y, 0, 1, 1);
        Check.due("same without doors", y.same(0), 0);
    }

    private static void alike() {
        DoorSchool x = Check.made(DoingTest.SCHOOL);
        int[] due = {0, 0, 8, 4};
        for (int door = 0; door < 4; door++) {
            Check.due("alike(" + door + ")", x.alike(door), due[door]);
        }
        Check.due("alike(4)", x.alike(4), -2);
        Check.due("alike(-1)", x.alike(-1), -2);
        DoorSchool y = Check.made("school signs 2 teachers 1;door heart slips 0;door nearest slips 9;door shortest slips 0;"
                + "lesson 2 0 open;lesson 2 0 shut;");
        Check.due("alike without lessons", y.alike(0), 6);
    }

    private static void copying() {
        DoorSchool x = Check.made(DoingTest.SCHOOL);
        Check.due("copy(3, 1) in place of 2", x.copy(3, 1), 2);
        Check.due("deeds(3) then", x.deeds(3), 170);
        Check.due("door(3, 3) then", x.door(3, 3), 1);
        Check.due("copy(0, 3), who copies", x.copy(0, 3), -5);
        Check.due("copy(1, 0), copied itself", x.copy(1, 0), -5);
        Check.due("copy(1, NONE), copied itself", x.copy(1, -1), -5);
        Check.due("copy(0, 1)", x.copy(0, 1), -1);
        Check.due("alike(1) then", x.alike(1), 9);
        Check.due("copy(0, 1) again", x.copy(0, 1), 1);
        Check.due("copy(3, NONE)", x.copy(3, -1), 1);
        Check.due("copy(3, NONE) again", x.copy(3, -1), -1);
        Check.due("deeds(3) by itself", x.deeds(3), 255);
        Check.due("copy(0, NONE)", x.copy(0, -1), 1);
        Check.due("copy(1, 0), free again", x.copy(1, 0), -1);
        Check.due("deeds(1) then", x.deeds(1), 132);
        Check.due("copy(2, 2)", x.copy(2, 2), -2);
        Check.due("copy(4, 0)", x.copy(4, 0), -2);
        Check.due("copy(2, 4)", x.copy(2, 4), -2);
        Check.due("copy(2, -2)", x.copy(2, -2), -2);
        Check.due("copy(-1, -1)", x.copy(-1, -1), -2);
        Check.due("copy(0, 0), copied, -2 first", x.copy(0, 0), -2);
        Check.due("copy(0, 4), copied, -2 first", x.copy(0, 4), -2);
    }

    private static void hanging() {
        DoorSchool x = Check.made(DoingTest.SCHOOL);
        int[][] amiss = {{4, 4}, {0, 4}, {6, 4}, {6, 4}};
        for (int door = 0; door < 4; door++) {
            for (int house = 0; house < 2; house++) {
                Check.due("amiss(" + door + ", " + house + ")", x.amiss(door, house), amiss[door][house]);
            }
        }
        Check.due("amiss(4, 0)", x.amiss(4, 0), -2);
        Check.due("amiss(0, 2)", x.amiss(0, 2), -2);
        Check.due("amiss(0, -1)", x.amiss(0, -1), -2);
        Check.due("hanging()", x.hanging(), 4);
        Check.due("hung(0)", x.hung(0), 1);
        Check.due("hung(1), the first of three", x.hung(1), 0);
        Check.due("hung(2)", x.hung(2), -2);
        Check.due("hung(-1)", x.hung(-1), -2);
        // Door 0 fits both houses wholly, door 1 the first alone: the first house must leave it door 0's place.
        DoorSchool y = Check.made("school signs 2 teachers 1;door shortest slips 0;door heart slips 0;lesson 0 0 shut;"
                + "lesson 0 1 open;lesson 1 1 open;lesson 1 3 open;house 1 1;house 1 1;");
        Check.due("hanging() of a tie", y.hanging(), 0);
        Check.due("hung(0) of a tie", y.hung(0), 0);
        DoorSchool z = Check.made("school signs 2 teachers 1;door heart slips 0;door heart slips 0;lesson 0 1 open;"
                + "lesson 0 3 open;lesson 1 1 open;lesson 1 3 open;lesson 1 2 open;lesson 1 0 open;house 1 1;house 3 3;");
        // 0 in house 0 leaves 1 with 3 amiss; 1 in house 0 has 2, and 0 in house 1 has 1.
        Check.due("hanging() of a second tie", z.hanging(), 3);
        Check.due("hung(0) of a second tie", z.hung(0), 0);
        DoorSchool few = Check.made("school signs 2 teachers 1;door heart slips 0;house 0 0;house 1 1;");
        Check.due("hanging() of too few", few.hanging(), -1);
        Check.due("hung(1) of too few", few.hung(1), -1);
        Check.due("hung(2) of too few", few.hung(2), -2);
        DoorSchool none = Check.made("school signs 2 teachers 1;door heart slips 0;");
        Check.due("hanging() without houses", none.hanging(), 0);
        Check.due("hung(0) without houses", none.hung(0), -2);
        DoorSchool empty = Check.made("school signs 2 teachers 1;");
        Check.due("hanging() without both", empty.hanging(), 0);
        // Later houses count: what fits house 0 best is wanted more elsewhere.
        DoorSchool w = Check.made("school signs 2 teachers 1;door heart slips 0;door heart slips 0;lesson 0 1 open;"
                + "house 1 1;house 3 1;");
        Check.due("hanging() of a later house", w.hanging(), 2);
        Check.due("hung(0) of a later house", w.hung(0), 0);
        Check.due("hung(1) of a later house", w.hung(1), 1);
        // One door hangs in one house alone, however well it would do in both.
        DoorSchool once = Check.made("school signs 2 teachers 1;door heart slips 0;door heart slips 0;door heart slips 0;"
                + "lesson 1 1 open;house 3 1;house 3 1;");
        Check.due("hanging() of one good door", once.hanging(), 1);
        Check.due("hung(0) of one good door", once.hung(0), 0);
        Check.due("hung(1) of one good door", once.hung(1), 1);
        w.teach(1, 0, 1);
        Check.due("amiss(1, 1) then", w.amiss(1, 1), 2);
        Check.due("hanging() then", w.hanging(), 3);
    }

    private static void fits() {
        DoorSchool x = Check.made("school signs 2 teachers 1;");
        Check.due("fits(0) of nothing", x.fits(0), -6);
        long[][] rows = {{1, 1}, {0, 0, 1, 0, 2, 0, 3, 0}, {1, 1, 3, 1, 0, 0}, {}, {1, 1, 1, 0}, {1, 1, 1, 1}};
        int[] fits = {4, 0, 1, 9, 0, 4};
        int[] open = {2, 15, 10, 0, 15, 2};
        int[] shut = {0, 15, 5, 0, 15, 0};
        int[] ask = {0, -1, -1, 0, -1, 0};
        int[] leaves = {2, 0, 1, 5, 0, 2};
        for (int i = 0; i < rows.length; i++) {
            Check.row(x, 2, rows[i]);
            Check.due("fits of row " + i, x.fits(2), fits[i]);
            Check.due("sure(2, 0) of row " + i, x.sure(2, 0), open[i]);
            Check.due("sure(2, 1) of row " + i, x.sure(2, 1), shut[i]);
            Check.due("ask of row " + i, x.ask(2), ask[i]);
            Check.due("leaves of row " + i, x.leaves(2), leaves[i]);
        }
    }

    private static void sureAndAsked() {
        DoorSchool x = Check.made("school signs 2 teachers 1;");
        // 0 open and 1 open: all, or sign 1 away. Knock 2 tells them apart, and 0 and 1 tell nothing.
        Check.row(x, 0, 0, 1, 1, 1);
        Check.due("fits(0)", x.fits(0), 2);
        Check.due("sure(0, 0)", x.sure(0, 0), 3);
        Check.due("sure(0, 1)", x.sure(0, 1), 0);
        Check.due("ask(0)", x.ask(0), 2);
        Check.due("leaves(0)", x.leaves(0), 1);
        // 0 shut: five are left, 1 1, 2 2, 3 1, 3 2, 3 3; knocks 1 and 2 open by two of them, 3 by three.
        Check.row(x, 0, 0, 0);
        Check.due("fits(0)", x.fits(0), 5);
        Check.due("sure(0, 1)", x.sure(0, 1), 1);
        Check.due("ask(0)", x.ask(0), 1);
        Check.due("leaves(0)", x.leaves(0), 3);
        DoorSchool y = Check.made("school signs 4 teachers 1;");
        Check.row(y, 0);
        Check.due("fits of four signs", y.fits(0), 81);
        Check.due("leaves of four signs", y.leaves(0), 65);
    }

    private static void rowsThatAreNotSo() {
        DoorSchool x = Check.made("school signs 2 teachers 1;door heart slips 0;");
        long[][] rows = {{1}, {1, 1, 1}, {4, 1}, {-1, 1}, {1, 2}, {1, -1}, {0, 0, 0, 9}, {3, 0, 255, 0}};
        for (int i = 0; i < rows.length; i++) {
            Check.row(x, 1, rows[i]);
            all("of wrong row " + i, x, 1, -2);
        }
        x.row(3, 3, 2);
        x.write(3, 0, 1L << 32);
        all("of a number cut wrongly", x, 3, -2);
        Check.due("sure(3, 0)", x.sure(3, 0), -2);
        all("of slot 4", x, 4, -2);
        all("of slot -1", x, -1, -2);
        all("of nothing", x, 2, -6);
        Check.due("sure(2, 0)", x.sure(2, 0), -6);
        Check.due("sure(2, 2), nothing there", x.sure(2, 2), -2);
        Check.row(x, 0, 1, 1);
        Check.due("sure(0, 2)", x.sure(0, 2), -2);
        Check.due("sure(0, -1)", x.sure(0, -1), -2);
        x.school();
        all("without a school", x, 0, -2);
        Check.due("sure(0, 0) without a school", x.sure(0, 0), -2);
        all("without school and row", x, 2, -2);
    }

    private static void all(String of, DoorSchool x, int slot, int due) {
        Check.due("same " + of, x.same(slot), due);
        Check.due("fits " + of, x.fits(slot), due);
        Check.due("sure " + of, x.sure(slot, 1), due);
        Check.due("ask " + of, x.ask(slot), due);
        Check.due("leaves " + of, x.leaves(slot), due);
    }
}
