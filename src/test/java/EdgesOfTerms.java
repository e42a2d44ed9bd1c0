import java.util.Arrays;

/** What the Terms say of the text (I), sentence by sentence; EdgesOfWords has the rest of them. */
final class EdgesOfTerms extends Edges {
    private static final String COURSE = "course takes 3;";

    private EdgesOfTerms() {
    }

    static void all() {
        lines();
        bounds();
        knocks();
        twins();
        rulesInText();
        courses();
        numbered();
        tokens();
        faults();
        tooMany();
        slots();
    }

    private static void lines() {
        edge(TERMS, "I. SCHOOL: {LINE ;}", () -> {
            new Run().reads(0, "").reads(1, HEAD).reads(2, HEAD + HEART).reads(0, "\n ");
            Run.fault(1, "", ";");
            Run.fault(1, HEAD, ";");
            Run.fault(1, HEAD + HEART, ";" + HEART);
            Run.fault(1, HEAD + "door heart slips 0 ", HEART);
            Run.fault(1, HEAD + "door heart slips 0", "");
        });
        String doors = HEAD + HEART + HEART;
        edge(TERMS, "LINE: school signs N teachers N", () -> line("", "school signs 2 teachers 1"));
        edge(TERMS, "door heart slips N", () -> line(HEAD, "door heart slips 0"));
        edge(TERMS, "door shortest slips N", () -> line(HEAD, "door shortest slips 50"));
        edge(TERMS, "door nearest slips N", () -> line(HEAD, "door nearest slips 7"));
        edge(TERMS, "lesson D X DOES", () -> line(doors, "lesson 0 1 open"));
        edge(TERMS, "exam X DOES", () -> line(doors, "exam 3 shut"));
        edge(TERMS, "twin D D", () -> line(doors, "twin 1 0"));
        edge(TERMS, "owner M V", () -> line(HEAD, "owner 3 2"));
        edge(TERMS, "house M V", () -> line(HEAD, "house 0 0"));
        edge(TERMS, "course takes N", () -> line(HEAD, "course takes 9"));
        edge(TERMS, "ahead C C", () -> line(HEAD + COURSE + COURSE, "ahead 0 1"));
        edge(TERMS, "school is the first LINE and no other", () -> {
            for (String other : new String[] {"door heart slips 0;", "owner 0 0;", "exam 0 open;", "course takes 1;"}) {
                Run.fault(1, "", other + HEAD);
                Run.fault(1, HEAD + other, HEAD);
            }
            Run.fault(1, HEAD, HEAD);
        });
    }

    /** A LINE is read whole; cut short, or with another TOKEN in place of one of its own, it has FAULT 1 there. */
    private static void line(String ahead, String line) {
        int lines = ahead.length() - ahead.replace(";", "").length();
        new Run().reads(lines + 1, ahead + line + ";").reads(lines + 1, ahead + line.replace(" ", "\n  ") + " ;");
        String[] tokens = line.split(" ");
        String before = ahead;
        for (int i = 0; i < tokens.length; i++) {
            String rest = String.join(" ", Arrays.copyOfRange(tokens, i + 1, tokens.length)) + ";";
            boolean number = Character.isDigit(tokens[i].charAt(0));
            for (String other : number ? these("x", "open", "-1", "; 1") : notAs(tokens[i])) {
                Run.fault(1, before, other + " " + rest);
            }
            if (i > 0) {
                Run.fault(1, before, "");
            }
            before += tokens[i] + " ";
        }
        Run.fault(1, before, "");
        Run.fault(1, before, "0;");
        Run.fault(1, before, "open;");
    }

    /** What can't stand in place of a word: it is taken letter by letter, the small ones alone. */
    private static String[] notAs(String word) {
        int last = word.length() - 1;
        return these("1", "zz", "-", ";", word + "s", "s" + word, "j" + word.substring(1), word.substring(0, last) + "j",
                word.substring(0, last), word.substring(1), word.substring(0, 1).toUpperCase() + word.substring(1), word + word);
    }

    private static String[] these(String... told) {
        return told;
    }

    /** A number at one place of a text: these are taken, those are FAULT 2. */
    private static void numbers(String ahead, String behind, String[] right, String[] wrong) {
        int lines = (ahead + behind).length() - (ahead + behind).replace(";", "").length();
        for (String number : right) {
            new Run().reads(lines, ahead + number + behind);
        }
        for (String number : wrong) {
            Run.fault(2, ahead, number + behind);
        }
    }

    private static void bounds() {
        edge(TERMS, ": signs 2 .. 4", () -> {
            numbers("school signs ", " teachers 1;", these("2", "3", "4", "02", "00000000000000000000004"),
                    these("0", "1", "5", "9", "22", "258", "65538", "4294967298", "18446744073709551618"));
            Run.of("school signs 2 teachers 1;").is(2, "count", 0).is(15, "does", 0, 0);
            Run.of("school signs 4 teachers 1;").is(4, "count", 0).is(65535, "does", 0, 0);
        });
        edge(TERMS, ", teachers 1 .. 3", () -> {
            numbers("school signs 2 teachers ", ";", these("1", "2", "3", "003"),
                    these("0", "4", "00", "10", "4294967297", "18446744073709551617", "9".repeat(400)));
            Run.of("school signs 2 teachers 1;").is(1, "count", 1);
            Run.of("school signs 2 teachers 3;").is(3, "count", 1);
        });
        edge(TERMS, "slips 0 .. 50", () -> {
            numbers(HEAD + "door nearest slips ", ";", these("0", "1", "49", "50", "050"),
                    these("51", "52", "99", "500", "4294967296", "18446744073709551616"));
            Run.of(HEAD + "door heart slips 50;").is(50, "door", 0, 1);
            Run.of(HEAD + HEART).is(0, "door", 0, 1);
        });
        edge(TERMS, "D a DOOR", () -> {
            numbers(HEAD + "lesson ", " 0 open;", these(), these("0", "1", "4294967296"));
            numbers(HEAD + HEART + HEART + "lesson ", " 0 open;", these("0", "1"), these("2", "3", "4", "4294967296"));
            numbers(HEAD + HEART.repeat(4) + "lesson ", " 0 open;", these("0", "3", "03"), these("4", "10"));
            numbers(HEAD + HEART.repeat(4) + "twin ", " 1;", these("0", "2", "3"), these("4", "5"));
            numbers(HEAD + HEART.repeat(4) + "twin 1 ", ";", these("0", "2", "3"), these("4", "5"));
            numbers(HEAD + HEART + "twin 0 ", ";" + HEART, these(), these("1"));
            // One that is told later on is none yet.
            numbers(HEAD + "lesson ", " 0 open;" + HEART, these(), these("0"));
            numbers(HEAD + "twin ", " 1;" + HEART + HEART, these(), these("0"));
        });
        edge(TERMS, ", C a COURSE told ahead", () -> {
            numbers(HEAD + "ahead ", " 1;", these(), these("0", "1"));
            numbers(HEAD + COURSE + COURSE + "ahead ", " 1;", these("0"), these("2", "3", "4294967296"));
            numbers(HEAD + COURSE + COURSE + "ahead 0 ", ";" + COURSE, these("1"), these("2", "3"));
            numbers(HEAD + COURSE.repeat(6) + "ahead 0 ", ";", these("1", "5"), these("6", "7"));
            numbers(HEAD + COURSE.repeat(6) + "ahead ", " 5;", these("0", "4"), these("6", "7"));
        });
        edge(TERMS, "course: 1 .. 9 hours", () -> {
            numbers(HEAD + "course takes ", ";", these("1", "2", "9", "09"), these("0", "10", "11", "90", "4294967297"));
            Run.of(HEAD + "course takes 1;").is(1, "hours");
            Run.of(HEAD + "course takes 9;").is(9, "hours");
        });
    }

    private static void knocks() {
        edge(TERMS, ", X a KNOCK: 0 .. 2 to the signs less 1", () -> {
            numbers(HEAD + "exam ", " open;", these("0", "3", "003"), these("4", "7", "16", "4294967296"));
            numbers(HEAD.replace('2', '3') + "exam ", " shut;", these("0", "4", "7"), these("8", "15"));
            numbers(WIDE + "exam ", " open;", these("0", "8", "15"), these("16", "17", "65536"));
            numbers(HEAD + HEART + "lesson 0 ", " open;", these("0", "3"), these("4", "5"));
            numbers(WIDE + HEART + "lesson 0 ", " open;", these("0", "15"), these("16", "100"));
        });
        edge(TERMS, "(bit i: sign i is there)", () -> {
            Run x = Run.of(WIDE);
            x.is(0xaaaa, "does", 1, 1).is(0xcccc, "does", 2, 2).is(0xf0f0, "does", 4, 4).is(0xff00, "does", 8, 8);
        });
        edge(TERMS, ", DOES: open | shut", () -> {
            Run x = Run.of(HEAD + HEART + "lesson 0 0 open;lesson 0 1 shut;exam 0 open;exam 1 shut;");
            x.is(1, "lesson", 0, 0, 1).is(0, "lesson", 0, 1, 1).is(1, "exam", 0, 1).is(0, "exam", 1, 1).is(1, "deeds", 0);
            for (String other : these("ajar;", "opens;", "ope;", "shu;", "shutt;", "1;", "0;", "Open;", ";")) {
                Run.fault(1, HEAD + "exam 0 ", other);
                Run.fault(1, HEAD + HEART + "lesson 0 3 ", other);
            }
        });
    }

    private static void twins() {
        String doors = HEAD + HEART.repeat(4);
        edge(TERMS, "twin: of two unlike ones;", () -> {
            Run.fault(2, doors + "twin 0 ", "0;");
            Run.fault(2, doors + "twin 3 ", "3;");
            new Run().reads(6, doors + "twin 3 0;").is(0, "door", 3, 3).reads(6, doors + "twin 0 3;").is(3, "door", 0, 3);
        });
        edge(TERMS, "the first copies nobody", () -> {
            Run.fault(2, doors + "twin 0 1;twin ", "0 1;");
            Run.fault(2, doors + "twin 0 1;twin ", "0 2;");
            Run.fault(2, doors + "twin 0 1;twin ", "0 0;");
            new Run().reads(7, doors + "twin 0 1;twin 2 1;");
        });
        edge(TERMS, "and is copied by nobody", () -> {
            Run.fault(2, doors + "twin 0 1;twin ", "1 0;");
            Run.fault(2, doors + "twin 0 1;twin ", "1 2;");
            Run.fault(2, doors + "twin 3 0;twin ", "0 1;");
            new Run().reads(7, doors + "twin 0 1;twin 2 3;").is(3, "door", 2, 3);
        });
        edge(TERMS, ", the second copies nobody", () -> {
            Run.fault(2, doors + "twin 0 1;twin 2 ", "0;");
            Run.fault(2, doors + "twin 3 2;twin 0 ", "3;");
            new Run().reads(8, doors + "twin 0 1;twin 2 1;twin 3 1;").is(1, "door", 0, 3).is(1, "door", 2, 3).is(1, "door", 3, 3);
        });
    }

    private static void rulesInText() {
        edge(TERMS, "M a set of signs (bits, as a KNOCK)", () -> {
            for (String word : these("owner ", "house ")) {
                numbers(HEAD + word, " 0;", these("0", "1", "3", "03"), these("4", "8", "4294967296"));
                numbers(HEAD.replace('2', '3') + word, " 0;", these("0", "7"), these("8"));
                numbers(WIDE + word, " 0;", these("0", "15"), these("16", "4294967311"));
            }
        });
        edge(TERMS, ", V a part of it", () -> {
            for (String word : these("owner ", "house ")) {
                numbers(HEAD + word + "0 ", ";", these("0"), these("1", "2", "3", "4", "99"));
                numbers(HEAD + word + "1 ", ";", these("0", "1"), these("2", "3", "4294967296"));
                numbers(HEAD + word + "3 ", ";", these("0", "1", "2", "3"), these("4", "7"));
                numbers(WIDE + word + "10 ", ";", these("0", "2", "8", "10"), these("1", "4", "5", "9", "11", "15", "16", "26"));
            }
        });
        edge(TERMS, "owner: a later one strikes", () -> {
            Run x = Run.of(HEAD + "owner 3 1;owner 1 0;").are(new long[] {1, 0, 2}, "house", -1).is(5, "owns", 0, 0);
            x.reads(4, HEAD + "owner 1 0;owner 3 3;owner 3 2;").are(new long[] {3, 2, 1}, "house", -1);
            x.reads(3, HEAD + "owner 3 3;owner 0 0;").are(new long[] {0, 0, 4}, "house", -1);
        });
        edge(TERMS, "(0 0 without)", () -> {
            Run x = Run.of(HEAD).are(new long[] {0, 0, 4}, "house", -1).is(15, "owns", 1, 1);
            x.reads(1, WIDE).are(new long[] {0, 0, 16}, "house", -1);
        });
    }

    private static void courses() {
        edge(TERMS, "ahead: of two unlike ones", () -> {
            Run.fault(2, HEAD + COURSE + COURSE + "ahead 0 ", "0;");
            Run.fault(2, HEAD + COURSE + COURSE + "ahead 1 ", "1;");
            Run.fault(2, HEAD + COURSE + "ahead 0 ", "0;");
        });
        edge(TERMS, ", the first of the lesser number", () -> {
            Run.fault(2, HEAD + COURSE + COURSE + "ahead 1 ", "0;");
            Run.fault(2, HEAD + COURSE.repeat(6) + "ahead 5 ", "4;");
            new Run().reads(8, HEAD + COURSE.repeat(6) + "ahead 4 5;").reads(8, HEAD + COURSE.repeat(6) + "ahead 0 5;");
            // Told twice it is as told once.
            String two = HEAD.replace("teachers 1", "teachers 2") + COURSE + COURSE;
            new Run().reads(3, two).is(3, "hours").reads(4, two + "ahead 0 1;").is(6, "hours").is(3, "begins", 1);
            new Run().reads(5, two + "ahead 0 1;ahead 0 1;").is(6, "hours").is(3, "begins", 1);
        });
    }

    private static void numbered() {
        edge(TERMS, "DOORS 0 .. 3, LESSONS of a DOOR 0 .. 11, EXAMS 0 .. 11, HOUSES 0 .. 3, COURSES 0 .. 5 are numbered as they stand",
                () -> {
            StringBuilder text = new StringBuilder(WIDE);
            for (int i = 0; i < 12; i++) {
                text.append(i < 4 ? "door nearest slips " + (10 + i) + ";house 15 " + (5 + i) + ";" : "");
                text.append("exam ").append(i).append(" open;lesson 0 ").append(15 - i).append(" shut;");
                text.append(i < 6 ? "course takes " + (i + 1) + ";" : "").append(i < 5 ? "" : "lesson 3 " + i + " open;");
            }
            Run x = Run.of(text.toString());
            for (int i = 0; i < 12; i++) {
                x.is(i, "exam", i, 0).is(15 - i, "lesson", 0, i, 0).is(i < 7 ? i + 5 : -1, "lesson", 3, i, 0);
            }
            for (int i = 0; i < 4; i++) {
                x.is(10 + i, "door", i, 1).is(5 + i, "house", i, 1).is(i * (i + 1) / 2, "begins", i);
            }
            x.is(10, "begins", 4).is(15, "begins", 5).is(21, "hours");
        });
    }

    private static void tokens() {
        edge(TERMS, "TOKENS, blanks (32, 10) aside, the longest:", () -> {
            new Run().reads(2, "school signs 2 teachers 1;door heart slips 0;").reads(1, "\n\n  school\nsigns\n 2 teachers 1 ;\n ");
            new Run().reads(3, "school signs2teachers1;door heart slips50;exam1open;").is(50, "door", 0, 1).is(1, "exam", 0, 0);
            Run.fault(1, "", "schoolsigns 2 teachers 1;");
            Run.fault(1, "", "scho ol signs 2 teachers 1;");
            Run.fault(1, "school signs 2 teachers 1 ", "2;");
            Run.fault(2, HEAD + "door heart slips ", "051;");
            Run.fault(1, HEAD + "door heart slips 5 ", "0;");
            Run.fault(2, HEAD + "exam ", "33open;");
            // What is no blank: all other bytes that are no TOKEN.
            for (int sign : new int[] {0, 1, 9, 11, 12, 13, 31, 33, 127, 128, 138, 160, 255}) {
                Run.fault(1, HEAD, (char) sign + HEART);
                Run.fault(1, HEAD + "door heart", (char) sign + " slips 0;");
            }
        });
        edge(TERMS, "words (a .. z), numbers (digits), the sign ; .", () -> {
            // The neighbours of a, z, 0, 9 and the sign are no TOKENS, and end the one ahead of them.
            for (char sign : "`{/:<A_-+.,Z@[".toCharArray()) {
                Run.fault(1, HEAD + "exam 0 open", sign + ";");
                Run.fault(1, HEAD + "exam 0", sign + " open;");
                Run.fault(1, HEAD, sign + "exam 0 open;");
            }
            Run.fault(1, HEAD, "azaz;");
            Run.fault(1, HEAD + "exam 0 ", "openz;");
            Run.fault(1, HEAD + "exam 0 ", "opena;");
            Run.fault(1, HEAD, "0123456789;");
            new Run().reads(2, WIDE + "exam 10open;").is(10, "exam", 0, 0);
            new Run().reads(2, WIDE + "exam 09open;").is(9, "exam", 0, 0);
        });
    }

    private static void faults() {
        edge(TERMS, "FAULTS, the first by its place (a TOKEN's first byte; the end's)", () -> {
            Run.fault(1, HEAD + "exam 0 ", "opened;exam 9 open;school");
            Run.fault(2, HEAD + "exam ", "123456;x;" + HEAD);
            Run.fault(3, HEAD + HEART.repeat(4), HEART + "exam 9 open;-");
            Run.fault(1, HEAD + "exam 0 open", "");
            Run.fault(1, HEAD + "exam 0 open \n \n", "");
            Run.fault(1, HEAD + "exam", "");
            new Run().reads(-4, "school").is(6, "fault", 1).reads(-4, "school  \n").is(9, "fault", 1);
        });
        edge(TERMS, ", of one place the least:", () -> {
            // What would be too many here can't stand here either.
            Run.fault(1, HEAD + HEART.repeat(3) + "door heart slips 0 ", HEART);
            Run.fault(1, HEAD + "house 0 0;".repeat(3) + "house 0 0 ", "house 0 0;");
            Run.fault(1, HEAD + "exam 0 open;".repeat(11) + "exam 0 open ", "exam 0 open;");
            Run.fault(1, HEAD + COURSE.repeat(5) + "course takes 3 ", COURSE);
            Run.fault(1, HEAD + HEART + "lesson 0 0 open;".repeat(12) + "lesson ", "x 0 open;");
        });
        edge(TERMS, "1 a TOKEN that is none", () -> {
            Run.fault(1, "", "\tschool signs 2 teachers 1;");
            Run.fault(1, HEAD, "\u00e9");
            Run.fault(1, HEAD + "exam 0 open", "\u0000;");
            Run.fault(1, HEAD + "exam ", "-1 open;");
            Run.fault(1, HEAD + HEART + " \n", "#" + HEART);
        });
        edge(TERMS, ", or can't stand there (school behind the first LINE, another word ahead of it)", () -> {
            Run.fault(1, HEAD, "school signs 2 teachers 1;");
            Run.fault(1, HEAD + HEART, "school;");
            Run.fault(1, HEAD + HEART + "lesson 0 0 ", "school;");
            Run.fault(1, "", HEART + HEAD);
            Run.fault(1, "\n ", "open " + HEAD);
            Run.fault(1, HEAD, "heart slips 0;");
            Run.fault(1, HEAD, "0;");
        });
        edge(TERMS, "2 a number out of its bounds, not as said", () -> {
            Run.fault(2, HEAD + "exam ", "4 open;");
            Run.fault(2, HEAD + "exam ", "4");
            Run.fault(2, HEAD + "exam ", "4 4 4");
            Run.fault(2, HEAD + "house 1 ", "2;");
            Run.fault(2, HEAD + HEART + "twin 0 ", "0;");
            Run.fault(2, HEAD + COURSE + COURSE + "ahead 1 ", "0;");
        });
    }

    private static void tooMany() {
        edge(TERMS, "3 a 5th door, house, 13th exam, 7th course, at its word;", () -> {
            tooMany(HEART, 4);
            tooMany("house 0 0;", 4);
            tooMany("exam 0 open;", 12);
            tooMany(COURSE, 6);
            // Though all else of it is wrong as well.
            Run.fault(3, HEAD + HEART.repeat(4), "door");
            Run.fault(3, HEAD + "house 0 0;".repeat(4), "house 9 9;");
            Run.fault(3, HEAD + "exam 0 open;".repeat(12), "exam x");
            Run.fault(3, HEAD + COURSE.repeat(6), "course;");
            new Run().reads(27, HEAD + HEART.repeat(4) + "house 0 0;".repeat(4) + "exam 0 open;".repeat(12) + COURSE.repeat(6));
        });
        edge(TERMS, "a 13th LESSON of a DOOR, at its number", () -> {
            String twelve = HEAD + HEART + HEART + "lesson 1 0 open;".repeat(12);
            new Run().reads(15, twelve).is(12, "door", 1, 2).reads(27, twelve + "lesson 0 0 open;".repeat(12));
            Run.fault(3, twelve + "lesson ", "1 0 open;");
            Run.fault(3, twelve + "lesson ", "1 9 open;");
            Run.fault(3, twelve + "lesson ", "1");
            Run.fault(2, twelve + "lesson ", "2 0 open;");
            Run.fault(3, twelve + "lesson 0 0 open;".repeat(12) + "lesson ", "0 0 open;");
        });
    }

    private static void tooMany(String line, int most) {
        new Run().reads(most + 1, HEAD + line.repeat(most));
        Run.fault(3, HEAD + line.repeat(most), line);
    }

    private static void slots() {
        edge(TERMS, "SLOTS 0 .. 3 have rows of numbers of 1, 2, 4 or 8 bytes (WIDTH 0 .. 3)", () -> {
            Run x = Run.of(FOUR);
            for (int slot = 0; slot < 4; slot++) {
                x.is(0, "row", slot, slot, 2).is(0, "write", slot, 0, slot).is(0, "write", slot, 1, 1).is(slot + 1, "count", 9);
            }
            x.is(-2, "row", 4, 0, 2).is(-2, "row", 0, 4, 2).is(4, "count", 9);
            x.are(new long[] {0, 11, 0, 15, -2}, "same");
            // A number that is KNOCK 3 but for one bit beyond the lesser WIDTH.
            for (int width = 1; width < 4; width++) {
                long number = 3 + (1L << (4 << width));
                x.is(0, "row", 0, width - 1, 2).is(0, "write", 0, 0, number).is(0, "write", 0, 1, 1).is(15, "same", 0);
                x.is(0, "row", 0, width, 2).is(0, "write", 0, 0, number).is(0, "write", 0, 1, 1).is(-2, "same", 0);
            }
        });
        edge(TERMS, ", at most 60, or nothing", () -> {
            Run x = Run.of(FOUR);
            for (int width = 0; width < 4; width++) {
                x.is(-6, "same", 3).is(-6, "write", 3, 0, 0).is(0, "row", width, width, 60).is(0, "write", width, 59, 1);
                x.is(-7, "write", width, 60, 1).is(-2, "row", width, width, 61).is(0, "write", width, 59, 0);
                if (width == 2) {
                    x.is(3, "count", 9);
                    return;
                }
            }
        });
    }
}
