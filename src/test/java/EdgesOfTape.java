/** Promises 1 to 5, sentence by sentence. */
final class EdgesOfTape extends Edges {
    private static final int MOST = 1600;

    private EdgesOfTape() {
    }

    static void all() {
        made();
        fed();
        ended();
        read();
        emptyOrFaulty();
        faults();
    }

    private static void made() {
        edge(1, "No SCHOOL.", () -> {
            new Run().are(new long[10], "count").is(-2, "best").is(-2, "house", -1, 0).is(-2, "unteach");
            new Run().is(0, "fault", 0).is(-1, "fault", 1).is(-1, "end", 1).is(0, "end", 0).is(0, "school");
            for (int k = 0; k < 3; k++) {
                new Run().is(-6, "back", k);
            }
            for (int slot = 0; slot < 4; slot++) {
                new Run().is(-6, "write", slot, 0, 0);
            }
        });
    }

    private static void fed() {
        edge(2, "Twenty bytes come behind the TAPE, four of each number, the highest first: how many it has", () -> {
            // "scho" "ol s" "igns" " 4 t" "each" and "ers " "3;", the last byte of all 233, which is no TOKEN.
            Run x = new Run().is(20, "feed", 0x7363686f, 0x6f6c2073, 0x69676e73, 0x20342074, 0x65616368);
            x.is(40, "feed", 0x65727320, 0x333b2020, 0x20202020, 0x20202020, 0x202020e9).is(40, "count", 8);
            x.is(-4, "school").is(1, "fault", 0).is(39, "fault", 1);
            // Behind the bytes that end() left: "school " and "signs 4 teachers 3 ;".
            Run y = new Run().feed("school signs 4 teachers 3;").is(7, "end", 7);
            y.is(27, "feed", 0x7369676e, 0x73203420, 0x74656163, 0x68657273, 0x2033203b).is(1, "school").is(3, "count", 1);
            new Run().is(20, "feed", MIN, MAX, -1, 0, 1).is(-4, "school").is(0, "fault", 1);
        });
        edge(2, "NONE, and none come, if it would have more than 1,600", () -> {
            Run x = new Run();
            for (int bytes = 20; bytes <= MOST; bytes += 20) {
                x.is(bytes, "feed", 0x20202020, 0x20202020, 0x20202020, 0x20202020, 0x20202020);
            }
            x.is(-1, "feed", 0, 0, 0, 0, 0).is(MOST, "count", 8);
            x.is(1599, "end", 1599).is(-1, "feed", 0, 0, 0, 0, 0).is(1599, "count", 8);
            x.is(1581, "end", 1581).is(-1, "feed", 0, 0, 0, 0, 0).is(1581, "count", 8);
            x.is(1580, "end", 1580).is(MOST, "feed", 0x20202020, 0x20202020, 0x20202020, 0x20202020, 0x2020203b);
            x.is(-1, "feed", 0, 0, 0, 0, 0).is(-4, "school").is(1599, "fault", 1);
            // A whole text of 1,600 bytes, and no byte of what is refused.
            String lines = HEAD + "owner 0 0;".repeat(157);
            Run y = new Run().feed(lines + " ".repeat(MOST - lines.length())).is(-1, "feed", -1, -1, -1, -1, -1);
            y.is(158, "school").is(0, "count", 8);
        });
    }

    private static void ended() {
        edge(3, "The TAPE has its first n bytes alone: n", () -> {
            Run x = new Run().is(0, "end", 0).feed(HEAD + HEART);
            x.is(45, "end", 45).is(45, "count", 8).is(44, "end", 44).is(26, "end", 26).is(26, "count", 8);
            x.is(1, "school").is(0, "count", 2);
            x.feed(HEAD).is(0, "end", 0).is(0, "count", 8).is(0, "school").is(0, "count", 0);
            new Run().feed(" ".repeat(MOST)).is(MOST, "end", MOST).is(MOST, "count", 8);
        });
        edge(3, "NONE, and nothing happens, if it has not so many", () -> {
            new Run().is(-1, "end", 1).is(0, "count", 8).is(-1, "end", 1600);
            Run x = new Run().feed(HEAD + HEART).is(26, "end", 26);
            x.is(-1, "end", 27).is(-1, "end", 45).is(-1, "end", MAX).is(26, "count", 8);
            x.is(1, "school").is(0, "count", 2).is(-1, "end", 1);
            new Run().feed(" ".repeat(MOST)).is(-1, "end", MOST + 1).is(MOST, "count", 8);
        });
        edge(3, ", or n is below 0.", () -> {
            new Run().is(-1, "end", -1).is(0, "count", 8);
            Run x = new Run().feed(HEAD).is(-1, "end", -1).is(-1, "end", -26).is(-1, "end", MIN);
            x.is(26, "count", 8).is(1, "school");
        });
    }

    private static void read() {
        edge(4, "The TAPE (empty then) is the SCHOOL", () -> {
            new Run().reads(1, HEAD).is(0, "count", 8).is(0, "school");
            new Run().reads(24, FOUR).is(0, "count", 8).is(-1, "end", 1);
        });
        edge(4, "(in place of another)", () -> {
            Run x = Run.of(FOUR).is(4, "teach", 0, 0, 1).reads(2, HEAD + HEART);
            x.are(new long[] {2, 1, 1, 0, 0, 0, 0, 2, 0, 0, -1}, "count");
            x.are(new long[] {0, 0, 0, -1, -2}, "door", 0).is(-1, "lesson", 0, 0, 0).is(0, "deeds", 0);
            x.are(new long[] {0, 0, 4, -2}, "house", -1).is(-5, "unteach").is(0, "hours");
            // Nor is anything of a SCHOOL there again in the next but one, and in the one behind that.
            Run y = Run.of(FOUR).is(4, "teach", 0, 0, 1).reads(24, FOUR).is(4, "teach", 0, 0, 1);
            for (int again = 0; again < 2; again++) {
                y.reads(8, HEAD.replace("teachers 1", "teachers 2") + HEART.repeat(4) + "course takes 3;course takes 2;exam 0 shut;");
                y.are(new long[] {2, 2, 4, 1, 0, 2, 0, 8, 0, 0, -1}, "count").are(new long[] {0, 0, 0, -1, -2}, "door", 3);
                y.are(new long[] {0, 0, 4}, "house", -1).is(3, "hours").is(0, "begins", 1).is(-5, "unteach").is(1, "marks", 0);
                y.are(new long[] {0, 0, 0, 0, -2}, "deeds").is(-1, "lesson", 1, 0, 0).is(-1, "copy", 1, 0).is(0, "hanging");
            }
            // More signs than before, and fewer again.
            x.reads(1, WIDE).is(65535, "does", 0, 0).is(81, "learnt", 0, 65535).is(15, "told", 32768, 0);
            x.reads(1, HEAD).is(15, "does", 0, 0).is(9, "learnt", 0, 15).is(3, "told", 8, 0).is(16, "errors", 0, 0);
        });
        edge(4, ": how many LINES", () -> {
            new Run().reads(1, HEAD).is(1, "count", 7);
            new Run().reads(24, FOUR).is(24, "count", 7);
            new Run().reads(175, HEAD + "owner0 0;".repeat(174)).is(175, "count", 7);
        });
    }

    private static void emptyOrFaulty() {
        edge(4, "(0: there is none then)", () -> {
            for (String text : new String[] {"", " ", "\n", " \n \n"}) {
                Run x = Run.of(FOUR).reads(24, FOUR).is(4, "teach", 0, 0, 1).reads(0, text).is(0, "fault", 0).is(-1, "fault", 1);
                x.are(new long[10], "count").is(-2, "best").is(-2, "deeds", 0).is(-2, "house", -1, 0).is(-2, "does", 0, 0);
            }
            new Run().reads(0, " ".repeat(MOST)).is(0, "count", 8);
        });
        edge(4, "-4: a FAULT (the TAPE is empty, all else stays)", () -> {
            String[] texts = {"x", "school", HEAD + "door", WIDE + HEART + "twin 0 1;", HEAD
                    + NEAREST + "lesson 0 1 open;exam 0 open;owner 1 1;house 1 0;course takes 9;course takes 9;;"};
            for (String text : texts) {
                Run x = Run.of(FOUR).is(4, "teach", 0, 0, 1).row(1, 2, 0).is(0, "image", 2).is(8, "owns", 2, 0).mark();
                x.reads(-4, text).is(0, "count", 8).schoolAsMarked().is(0, "school").is(0, "back", 2).is(0, "unteach");
                x.is(3, "house", -1, 0).is(24, "count", 7);
            }
            // Without a SCHOOL there is none then either.
            new Run().reads(-4, HEAD + HEART + "exam 4 open;").are(new long[10], "count").is(-2, "best");
        });
    }

    private static void faults() {
        edge(5, "Of the latest school(), what 0: its FAULT, 0 without", () -> {
            Run x = new Run().is(0, "fault", 0).reads(0, "").is(0, "fault", 0);
            x.reads(-4, "school signs 5").is(2, "fault", 0).reads(-4, "schools").is(1, "fault", 0);
            x.reads(-4, HEAD + "house 0 0;".repeat(5)).is(3, "fault", 0).is(3, "fault", 0);
            x.feed("x").is(3, "fault", 0).is(0, "end", 0).is(3, "fault", 0);
            x.reads(1, HEAD).is(0, "fault", 0).reads(-4, "1").is(1, "fault", 0).reads(0, "").is(0, "fault", 0);
        });
        edge(5, "1: its place (NONE without)", () -> {
            Run x = new Run().reads(0, "").is(-1, "fault", 1).reads(-4, "school signs 5").is(13, "fault", 1);
            x.reads(-4, ";").is(0, "fault", 1).reads(-4, HEAD + " ".repeat(1573) + ";").is(1599, "fault", 1);
            x.reads(-4, "school" + " ".repeat(1594)).is(1600, "fault", 1).is(1600, "fault", 1);
            x.reads(1, HEAD).is(-1, "fault", 1).reads(-4, "1").is(0, "fault", 1).reads(0, " ").is(-1, "fault", 1);
        });
        edge(5, "NONE for another what", () -> {
            Run x = new Run().is(-1, "fault", 2).is(-1, "fault", -1);
            for (String text : new String[] {HEAD, "school signs 5"}) {
                x.feed(text).ask("school");
                x.is(-1, "fault", 2).is(-1, "fault", 3).is(-1, "fault", -1).is(-1, "fault", MIN).is(-1, "fault", MAX);
            }
        });
        edge(5, ", and ahead of any (what 1)", () -> {
            new Run().is(-1, "fault", 1).feed("school signs 5").is(-1, "fault", 1).is(0, "fault", 0);
        });
    }
}
