/** Promises 60 to 65: counts, images, rows of numbers. */
public final class StateTest {
    public static void main(String[] args) {
        counts();
        images();
        imagesWithoutSchool();
        rows();
        widths();
        pasting();
        Check.finish("StateTest");
    }

    private static void counts() {
        DoorSchool x = Check.made("school signs 3 teachers 2;door heart slips 0;door heart slips 0;exam 0 open;exam 0 open;"
                + "exam 0 open;house 0 0;house 0 0;house 0 0;house 0 0;course takes 1;course takes 1;course takes 1;"
                + "course takes 1;course takes 1;");
        x.teach(0, 0, 0);
        x.teach(1, 0, 0);
        x.unteach();
        x.feed(0, 0, 0, 0, 0);
        x.row(3, 0, 0);
        x.row(1, 3, 60);
        int[] due = {3, 2, 2, 3, 4, 5, 1, 15, 20, 2};
        for (int what = 0; what < 10; what++) {
            Check.due("count(" + what + ")", x.count(what), due[what]);
        }
        Check.due("count(10)", x.count(10), -1);
        Check.due("count(-1)", x.count(-1), -1);
    }

    private static void images() {
        DoorSchool x = Check.made(DoingTest.SCHOOL + "course takes 3;course takes 3;ahead 0 1;");
        Check.due("back(0) to nothing", x.back(0), -6);
        x.teach(0, 4, 1);
        Check.due("image(0)", x.image(0), 0);
        x.teach(1, 2, 1);
        x.train(2, 0, 0);
        x.train(2, 1, 7);
        x.copy(3, -1);
        x.owns(0, 0);
        x.unteach();
        x.unteach();
        x.feed(0, 0, 0, 0, 0);
        x.row(0, 0, 2);
        Check.due("image(1)", x.image(1), 0);
        x.end(0);
        Check.due("another school", Check.school(x, "school signs 4 teachers 1;door nearest slips 0;exam 15 open;"
                + "lesson 0 15 shut;lesson 0 1 open;course takes 9;house 15 15;house 8 0;house 0 0;"), 9);
        x.teach(0, 2, 1);
        Check.due("hours of another school", x.hours(), 9);
        Check.due("a fault", Check.school(x, "school"), -4);
        Check.feed(x, "door");
        Check.due("back(0)", x.back(0), 0);
        Check.due("deeds(0)", x.deeds(0), 148);
        Check.due("deeds(2)", x.deeds(2), 212);
        Check.due("door(2, 1)", x.door(2, 1), 30);
        Check.due("door(3, 3)", x.door(3, 3), 2);
        Check.due("lesson(0, 4, 0)", x.lesson(0, 4, 0), 4);
        Check.due("house(-1, 2)", x.house(-1, 2), 4);
        Check.due("house(1, 0)", x.house(1, 0), 6);
        Check.due("house(1, 1)", x.house(1, 1), 4);
        Check.due("exam(3, 0)", x.exam(3, 0), 7);
        Check.due("marks(0)", x.marks(0), 3);
        Check.due("rules of three signs again", x.does(7, 7), 128);
        Check.due("exam(3, 1)", x.exam(3, 1), 1);
        Check.due("exam(4, 0)", x.exam(4, 0), -2);
        Check.due("house(-1, 1)", x.house(-1, 1), 2);
        Check.due("house(2, 0)", x.house(2, 0), -2);
        Check.due("door(1, 0)", x.door(1, 0), 1);
        int[] counts = {3, 2, 4, 4, 2, 2};
        for (int what = 0; what < counts.length; what++) {
            Check.due("count(" + what + ") of the image", x.count(what), counts[what]);
        }
        Check.due("hours()", x.hours(), 6);
        Check.due("lines", x.count(7), DoingTest.SCHOOL.split(";").length + 3);
        Check.due("what came by teach()", x.count(6), 1);
        Check.due("the tape is as it was", x.count(8), 4);
        Check.due("the slots are as they were", x.count(9), 1);
        Check.due("the fault is as it was", x.fault(0), 1);
        Check.due("unteach()", x.unteach(), 0);
        Check.due("unteach() of none left", x.unteach(), -5);
        Check.due("back(0) again", x.back(0), 0);
        Check.due("deeds(0) again", x.deeds(0), 148);
        Check.due("unteach() again", x.unteach(), 0);
        Check.due("back(1)", x.back(1), 0);
        Check.due("door(2, 0)", x.door(2, 0), 0);
        Check.due("door(2, 1)", x.door(2, 1), 7);
        Check.due("door(3, 3)", x.door(3, 3), -1);
        Check.due("house(-1, 2)", x.house(-1, 2), 8);
        Check.due("what came by teach()", x.count(6), 0);
        Check.due("image(0) anew", x.image(0), 0);
        x.teach(0, 0, 1);
        x.back(0);
        Check.due("deeds(0) of the new image", x.deeds(0), 132);
        x.teach(3, 1, 1);
        x.teach(1, 1, 1);
        x.image(2);
        x.unteach();
        x.unteach();
        x.teach(0, 1, 1);
        x.teach(0, 1, 1);
        x.back(2);
        Check.due("unteach() of the image's latest", x.unteach(), 1);
        Check.due("unteach() of the image's first", x.unteach(), 3);
        Check.due("door(0, 2)", x.door(0, 2), 4);
        Check.due("image(3)", x.image(3), -2);
        Check.due("image(-1)", x.image(-1), -2);
        Check.due("back(3)", x.back(3), -2);
        Check.due("back(-1)", x.back(-1), -2);
        DoorSchool y = Check.made("school signs 2 teachers 1;");
        y.image(0);
        Check.due("back(2) to nothing", y.back(2), -6);
    }

    private static void imagesWithoutSchool() {
        DoorSchool x = new DoorSchool();
        Check.due("image(2) without a school", x.image(2), 0);
        Check.school(x, DoingTest.SCHOOL);
        Check.due("back(2)", x.back(2), 0);
        Check.due("best() then", x.best(), -2);
        Check.due("count(7) then", x.count(7), 0);
        Check.due("count(2) then", x.count(2), 0);
    }

    private static void rows() {
        DoorSchool x = new DoorSchool();
        Check.due("write(0, 0, 1) to nothing", x.write(0, 0, 1), -6);
        Check.due("row(0, 0, 60)", x.row(0, 0, 60), 0);
        Check.due("row(0, 0, 61)", x.row(0, 0, 61), -2);
        Check.due("row(0, 4, 1)", x.row(0, 4, 1), -2);
        Check.due("row(0, -1, 1)", x.row(0, -1, 1), -2);
        Check.due("row(4, 0, 1)", x.row(4, 0, 1), -2);
        Check.due("row(-1, 0, 1)", x.row(-1, 0, 1), -2);
        Check.due("row(4, 0, -1)", x.row(4, 0, -1), -2);
        Check.due("row(0, 4, -1)", x.row(0, 4, -1), -2);
        Check.due("row(0, 1, -1)", x.row(0, 1, -1), -3);
        Check.due("the slot stays", x.write(0, 59, 1), 0);
        Check.due("write(0, 60, 1)", x.write(0, 60, 1), -7);
        Check.due("write(0, -1, 1)", x.write(0, -1, 1), -7);
        Check.due("write(4, 0, 1)", x.write(4, 0, 1), -2);
        Check.due("write(-1, 0, 1)", x.write(-1, 0, 1), -2);
        Check.due("write(1, 99, 1) to nothing", x.write(1, 99, 1), -6);
        Check.due("row(1, 0, 0)", x.row(1, 0, 0), 0);
        Check.due("write(1, 0, 1) to an empty row", x.write(1, 0, 1), -7);
        Check.due("row(1, 0, -1)", x.row(1, 0, -1), -3);
        Check.due("count(9)", x.count(9), 2);
        // A row in place of another one is all 0.
        Check.school(x, "school signs 2 teachers 1;door heart slips 0;");
        Check.row(x, 2, 3, 1);
        Check.due("same(2)", x.same(2), 0);
        x.row(2, 0, 2);
        Check.due("same(2) of zeros", x.same(2), 1);
    }

    private static void widths() {
        DoorSchool x = Check.made("school signs 2 teachers 1;door heart slips 0;lesson 0 3 open;");
        long[] beyond = {1L << 8, 1L << 16, 1L << 32, 0};
        for (int width = 0; width < 4; width++) {
            x.row(0, width, 2);
            x.write(0, 0, beyond[width] + 3);
            x.write(0, 1, 1 - beyond[width]);
            Check.due("cut to width " + width, x.same(0), 1);
            x.write(0, 0, width < 3 ? beyond[width] - 1 : -1);
            Check.due("not cut further, width " + width, x.same(0), -2);
            if (width > 0) {
                x.write(0, 0, beyond[width - 1] + 3);
                Check.due("nor to half of width " + width, x.same(0), -2);
            }
        }
        x.row(0, 3, 2);
        x.write(0, 0, Long.MIN_VALUE);
        Check.due("the highest bit is kept", x.same(0), -2);
    }

    private static void pasting() {
        DoorSchool x = Check.made("school signs 4 teachers 1;" + "door heart slips 0;".repeat(1) + "lesson 0 3 open;lesson 0 5 open;");
        Check.due("paste from nothing", x.paste(0, 0, 1, 0, 0), -6);
        Check.row(x, 0, 3, 1, 5, 1, 7, 0);
        Check.due("paste to nothing", x.paste(0, 0, 1, 0, 1), -6);
        Check.row(x, 1, 0, 0, 0, 0);
        Check.due("paste(0, 2, 1, 0, 4)", x.paste(0, 2, 1, 0, 4), 0);
        // Slot 1 is 5 1 7 0 now.
        Check.due("same(1)", x.same(1), 1);
        x.teach(0, 7, 1);
        Check.due("same(1), the fourth is there", x.same(1), 0);
        x.unteach();
        // In its own row, over itself: 3 1 5 1 7 0 becomes 3 1 3 1 5 1.
        Check.due("paste(0, 0, 0, 2, 4)", x.paste(0, 0, 0, 2, 4), 0);
        Check.due("same(0)", x.same(0), 1);
        x.teach(0, 5, 0);
        Check.due("same(0), the last is 5 1", x.same(0), 0);
        x.unteach();
        Check.row(x, 2, 9, 9, 9, 3, 1, 5, 1);
        Check.due("paste(2, 3, 2, 2, 4), the other way", x.paste(2, 3, 2, 2, 4), 0);
        x.row(3, 0, 2);
        Check.due("paste(2, 2, 3, 0, 2)", x.paste(2, 2, 3, 0, 2), 0);
        x.teach(0, 3, 0);
        Check.due("same(3) is 3 1", x.same(3), 0);
        x.unteach();
        Check.due("same(3) is 3 1", x.same(3), 1);
        int[][] beyond = {{0, 5, 1, 0, 2}, {0, 0, 1, 3, 2}, {0, 7, 1, 0, 0}, {0, 0, 1, 5, 0}, {0, -1, 1, 0, 1},
            {0, 0, 1, -1, 1}, {0, 0, 1, 0, -1}, {0, 0, 1, 0, 5}, {0, Integer.MAX_VALUE, 1, 0, Integer.MAX_VALUE},
            {0, 2, 1, Integer.MAX_VALUE, Integer.MAX_VALUE}, {0, Integer.MIN_VALUE, 1, 0, 1}, {0, 0, 1, 0, Integer.MIN_VALUE}};
        for (int[] b : beyond) {
            Check.due("paste" + java.util.Arrays.toString(b), x.paste(b[0], b[1], b[2], b[3], b[4]), -7);
        }
        Check.due("same(1) as before", x.same(1), 1);
        Check.due("paste of none at the ends", x.paste(0, 6, 1, 4, 0), 0);
        Check.due("paste of all", x.paste(1, 0, 0, 2, 4), 0);
        x.row(2, 1, 6);
        Check.due("paste of unlike widths", x.paste(0, 0, 2, 0, 1), -8);
        Check.due("paste of unlike widths, beyond", x.paste(0, 0, 2, 0, 99), -8);
        Check.due("paste(4, ..)", x.paste(4, 0, 0, 0, 0), -2);
        Check.due("paste(.., 4, ..)", x.paste(0, 0, 4, 0, 0), -2);
        Check.due("paste(-1, ..)", x.paste(-1, 0, 0, 0, 0), -2);
        DoorSchool y = new DoorSchool();
        y.row(0, 2, 1);
        Check.due("paste from nothing, beyond", y.paste(1, 0, 0, 9, 9), -6);
        Check.due("paste to slot 4 from nothing", y.paste(1, 0, 4, 0, 0), -2);
    }
}
