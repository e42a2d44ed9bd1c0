/** What all tests share: a count of right and wrong answers, and the way a text comes onto the tape. */
final class Check {
    private static int right;
    private static int wrong;

    private Check() {
    }

    static void due(String call, long got, long want) {
        if (got == want) {
            right++;
            return;
        }
        wrong++;
        System.out.println("  " + call + " answered " + got + ", due is " + want);
    }

    /** Feeds a text, of which no byte is lost and behind which none is added. */
    static void feed(DoorSchool x, String text) {
        int before = x.count(8);
        for (int at = 0; at < text.length(); at += 20) {
            int[] five = new int[5];
            for (int i = 0; i < 20; i++) {
                int sign = at + i < text.length() ? text.charAt(at + i) : ' ';
                five[i / 4] = five[i / 4] << 8 | sign & 255;
            }
            x.feed(five[0], five[1], five[2], five[3], five[4]);
        }
        x.end(before + text.length());
    }

    static int school(DoorSchool x, String text) {
        feed(x, text);
        return x.school();
    }

    static DoorSchool made(String text) {
        DoorSchool x = new DoorSchool();
        if (school(x, text) < 0) {
            wrong++;
            System.out.println("  no school: fault " + x.fault(0) + " at " + x.fault(1) + " of " + text);
        }
        return x;
    }

    /** Gives a slot a row of one byte each. */
    static void row(DoorSchool x, int slot, long... numbers) {
        x.row(slot, 0, numbers.length);
        for (int i = 0; i < numbers.length; i++) {
            x.write(slot, i, numbers[i]);
        }
    }

    static void finish(String test) {
        System.out.println(test + ": " + right + " answers as due, " + wrong + " not");
        if (wrong != 0 || right == 0) {
            System.exit(1);
        }
    }
}
