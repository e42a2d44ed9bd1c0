import java.util.Random;

/** Draws texts of schools, whole ones and spoilt ones; the same seed draws the same text. */
final class Texts {
    private final Random random;
    private int signs;
    private int doors;
    private int exams;
    private int houses;
    private int courses;
    private final int[] lessons = new int[4];
    private final boolean[] copies = new boolean[4];
    private final boolean[] copied = new boolean[4];

    private Texts(Random random) {
        this.random = random;
    }

    static String whole(Random random) {
        return new Texts(random).text();
    }

    static String spoilt(Random random) {
        StringBuilder text = new StringBuilder(whole(random));
        String[] bits = {"school", "door", "exam 0 open;", "house 1 1;", "course takes 9;", "ahead 1 0;", ";", " 7 ",
            "16", "51", "99999999999", "00", "x", "A", "\t", "\u00e9", "twin 1 0;", "lesson 0 0 shut;", "\n"};
        int spoils = 1 + random.nextInt(3);
        for (int i = 0; i < spoils && text.length() > 2; i++) {
            int at = random.nextInt(text.length());
            switch (random.nextInt(4)) {
                case 0 -> text.deleteCharAt(at);
                case 1 -> text.insert(at, bits[random.nextInt(bits.length)]);
                case 2 -> text.setCharAt(at, (char) ('0' + random.nextInt(10)));
                default -> {
                    if (random.nextInt(3) == 0) {
                        text.setLength(at);
                    }
                }
            }
        }
        return text.substring(0, Math.min(1580, text.length()));
    }

    private String text() {
        signs = random.nextInt(5) == 0 ? 4 : 2 + random.nextInt(2);
        StringBuilder text = new StringBuilder("school signs " + signs + " teachers " + upTo(1, 3) + ";");
        int lines = random.nextInt(60);
        for (int i = 0; i < lines && text.length() < 1450; i++) {
            String line = line(i < 3 ? 0 : random.nextInt(18));
            text.append(random.nextInt(6) == 0 ? line.replace(" ", random.nextBoolean() ? "  " : "\n") : line);
        }
        return text.toString();
    }

    private int upTo(int low, int high) {
        return low + random.nextInt(high - low + 1);
    }

    private int knock() {
        return random.nextInt(1 << signs);
    }

    private String said() {
        return " " + knock() + (random.nextBoolean() ? " open;" : " shut;");
    }

    private String rule() {
        int m = knock();
        return " " + m + " " + (m & knock()) + ";";
    }

    private String line(int kind) {
        int door = random.nextInt(4);
        int other = random.nextInt(4);
        if (kind <= 2 && doors < 4) {
            doors++;
            String[] ways = {"heart", "shortest", "nearest"};
            return "door " + ways[random.nextInt(3)] + " slips " + upTo(0, 50) + ";";
        }
        if (kind >= 3 && kind <= 8 && door < doors && lessons[door] < 12) {
            lessons[door]++;
            return "lesson " + door + said();
        }
        if (kind <= 10 && exams < 12) {
            exams++;
            return "exam" + said();
        }
        if (kind == 11 && door < doors && other < doors && door != other
                && !copies[door] && !copied[door] && !copies[other]) {
            copies[door] = true;
            copied[other] = true;
            return "twin " + door + " " + other + ";";
        }
        if (kind <= 12) {
            return "owner" + rule();
        }
        if (kind <= 14 && houses < 4) {
            houses++;
            return "house" + rule();
        }
        if (kind <= 16 && courses < 6) {
            courses++;
            return "course takes " + upTo(1, 9) + ";";
        }
        if (courses > 1) {
            int first = random.nextInt(courses - 1);
            return "ahead " + first + " " + upTo(first + 1, courses - 1) + ";";
        }
        return "";
    }
}
