/** Promises 18 to 30, sentence by sentence. */
final class EdgesOfLessons extends Edges {
    private static final String TWELVE_EXAMS = "exam 1 open;".repeat(11) + "exam 0 shut;";

    private EdgesOfLessons() {
    }

    static void all() {
        marks();
        best();
        teaching();
        takingBack();
        gaining();
        helping();
        idle();
        fewest();
        sets();
        easiest();
    }

    private static void marks() {
        edge(18, "EXAMS in which a DOOR does as it should", () -> {
            Run.of(FOUR).are(new long[] {3, 3, 2, 3, -2}, "marks");
            Run.of(HEAD + HEART).is(0, "marks", 0);
            Run x = Run.of(HEAD + HEART + NEAREST + TWELVE_EXAMS + "lesson 0 1 open;lesson 1 0 open;");
            x.are(new long[] {12, 11}, "marks").is(2, "teach", 0, 1, 0).is(1, "marks", 0).is(2, "teach", 1, 1, 0).is(0, "marks", 1);
        });
        edge(18, "-2: there is no such DOOR", () -> noDoor(-2, "marks"));
        edge(19, "The first EXAM in which it does not", () -> {
            Run.of(FOUR).are(new long[] {3, 3, 0, 3, -2}, "wrong");
            Run.of(HEAD + HEART + SHORTEST + TWELVE_EXAMS).are(new long[] {0, 11}, "wrong");
        });
        edge(19, "NONE: in all it does", () -> {
            Run.of(HEAD + HEART + "lesson 0 1 open;" + TWELVE_EXAMS).is(-1, "wrong", 0);
            Run.of(HEAD + HEART + SHORTEST).are(new long[] {-1, -1, -2}, "wrong");
            Run.of(HEAD + SHORTEST + "exam 0 open;".repeat(12)).is(-1, "wrong", 0);
            // EXAMS of another SCHOOL are none of this one's.
            Run x = Run.of(HEAD + HEART + TWELVE_EXAMS).reads(2, HEAD + HEART).reads(3, HEAD + HEART + "exam 0 shut;").is(-1, "wrong", 0);
            x.reads(2, HEAD + HEART).is(-1, "wrong", 0);
        });
        edge(19, "; -2 likewise", () -> noDoor(-2, "wrong"));
    }

    private static void best() {
        edge(20, "The DOOR that has most marks, the first of several", () -> {
            // Three of four DOORS have 3.
            Run x = Run.of(FOUR).is(0, "best").is(4, "teach", 0, 3, 0).is(1, "best").is(3, "teach", 2, 0, 1).is(1, "best");
            x.is(2, "train", 2, 0, 0).is(4, "teach", 2, 1, 1).is(2, "best").is(4, "marks", 2);
            // All have none: still the first of several. The last of four.
            Run.of(HEAD + HEART.repeat(4) + "exam 0 open;").is(0, "best").is(1, "teach", 3, 0, 1).is(3, "best");
            Run.of(HEAD + HEART.repeat(2)).is(0, "best");
        });
        edge(20, "NONE: there are no DOORS", () -> {
            Run.of(HEAD).is(-1, "best");
            Run.of(HEAD + TWELVE_EXAMS + "house 0 0;").is(-1, "best");
        });
        edge(20, "; -2: there is no SCHOOL", () -> noSchool(-2, "best"));
        edge(21, "EXAMS that no DOOR does right, as bits", () -> {
            Run x = Run.of(FOUR).is(8, "hard").is(4, "teach", 0, 0, 1).is(0, "hard").is(3, "teach", 1, 1, 0).is(0, "hard");
            x.is(5, "teach", 0, 1, 0).is(1, "hard");
            Run.of(HEAD + HEART + TWELVE_EXAMS).is(0x7ff, "hard");
            // Without DOORS none does any; without EXAMS there is none.
            Run.of(HEAD + TWELVE_EXAMS).is(0xfff, "hard");
            Run.of(HEAD).is(0, "hard");
            Run.of(HEAD + HEART).is(0, "hard");
        });
        edge(21, "-2 likewise", () -> noSchool(-2, "hard"));
    }

    private static void teaching() {
        edge(22, "A LESSON comes behind all of a DOOR's: how many it has then", () -> {
            Run x = Run.of(FOUR).is(4, "teach", 0, 1, 0).are(new long[] {1, 0}, "lesson", 0, 3).is(8, "deeds", 0).is(1, "count", 6);
            x.is(3, "teach", 1, 3, 0).is(5, "teach", 0, 1, 1).is(10, "deeds", 0).is(2, "deeds", 3).is(3, "count", 6);
            Run y = Run.of(WIDE + NEAREST).is(1, "teach", 0, 15, 1).is(0xffff, "deeds", 0).is(2, "teach", 0, 15, 0);
            y.is(0xffff, "deeds", 0).is(3, "teach", 0, 0, 0).is(0xfee8, "deeds", 0);
        });
        edge(22, "-3: it has twelve", () -> {
            Run x = Run.of(FOUR);
            for (int i = 4; i <= 12; i++) {
                x.is(i, "teach", 0, 0, 1);
            }
            x.mark().is(-3, "teach", 0, 1, 0).is(-3, "teach", 0, 0, 1).asMarked().is(11, "deeds", 0).is(9, "count", 6);
            x.is(3, "teach", 1, 2, 1).is(1, "unteach").is(0, "unteach").is(12, "teach", 0, 1, 0).is(-3, "teach", 0, 1, 0);
            // Twelve of the text's are twelve as well.
            Run.of(HEAD + HEART + "lesson 0 0 open;".repeat(12)).is(-3, "teach", 0, 0, 0).is(0, "count", 6).is(-5, "unteach");
            Run.of(HEAD + HEART + "lesson 0 0 open;".repeat(11)).is(12, "teach", 0, 0, 0).is(-3, "teach", 0, 0, 0);
        });
        edge(22, "; -5: there were 60 that are not taken back", () -> {
            // Four DOORS of twelve LESSONS hold 48: none is refused for that, also after more than 60 that were taken back.
            Run x = Run.of(HEAD + HEART.repeat(4));
            for (int i = 0; i < 48; i++) {
                x.is(i / 4 + 1, "teach", i % 4, i % 3, i % 2);
            }
            x.is(48, "count", 6).is(-3, "teach", 0, 0, 0).is(-3, "teach", 3, 0, 0);
            for (int i = 47; i >= 0; i--) {
                x.is(i % 4, "unteach");
            }
            for (int i = 0; i < 48; i++) {
                x.is(i / 4 + 1, "teach", i % 4, 0, 1);
            }
            x.is(48, "count", 6).is(-3, "teach", 1, 0, 0).is(3, "unteach").is(12, "teach", 3, 1, 1);
        });
        edge(22, "; -2: there are none such", () -> {
            noDoor(-2, "teach", 0, 0);
            noDoor(-2, "teach", 3, 1);
            noKnock(-2, "teach", 1, 0, 0, 0);
            noKnock(-2, "teach", 1, 3, 0, 1);
            wrongAt(Run.of(FOUR), -2, "teach", 2, new long[] {0, 0, 0}, -1, 2, 3, MIN, MAX);
            Run.of(FOUR).is(-2, "teach", 0, 4, 0).is(0, "count", 6).is(-5, "unteach");
        });
    }

    private static void takingBack() {
        edge(23, "The latest LESSON that came by teach() and is not taken back is: whose it was", () -> {
            Run x = Run.of(FOUR).is(4, "teach", 0, 0, 1).is(2, "teach", 3, 1, 1).is(5, "teach", 0, 2, 1).is(15, "deeds", 0);
            x.is(0, "unteach").is(11, "deeds", 0).is(4, "door", 0, 2).is(2, "count", 6).is(3, "unteach").is(1, "door", 3, 2);
            x.is(3, "teach", 2, 1, 1).is(2, "unteach").is(0, "unteach").is(10, "deeds", 0).is(0, "count", 6);
            // Also of a twin, and of one that has copied another since.
            Run.of(FOUR).is(4, "teach", 0, 0, 1).is(-1, "copy", 0, 1).is(0, "unteach").is(3, "door", 0, 2);
        });
        edge(23, "-5: there is none", () -> {
            Run x = Run.of(FOUR).mark().is(-5, "unteach").asMarked();
            x.is(4, "teach", 0, 0, 1).is(0, "unteach").is(-5, "unteach").is(3, "door", 0, 2).asMarked();
            Run.of(HEAD).is(-5, "unteach");
            Run.of(FOUR).is(4, "teach", 0, 0, 1).reads(24, FOUR).is(-5, "unteach").is(3, "door", 0, 2);
        });
        edge(23, "; -2: there is no SCHOOL", () -> {
            noSchool(-2, "unteach");
            Run.of(FOUR).is(4, "teach", 0, 0, 1).is(0, "school").is(-2, "unteach");
        });
    }

    private static void gaining() {
        String exams = "exam 1 open;exam 1 open;exam 1 shut;exam 2 open;exam 3 shut;exam 3 shut;";
        edge(24, "By how many marks more a DOOR would have with one LESSON more", () -> {
            Run x = Run.of(HEAD + HEART + exams).mark();
            x.is(0, "gains", 0, 0, 1).is(1, "gains", 0, 1, 1).is(0, "gains", 0, 1, 0).is(1, "gains", 0, 2, 1).is(-2, "gains", 0, 3, 1);
            x.asMarked().is(0, "count", 6);
            // A twin's own LESSON changes nothing of what it does; whom it copies has the gain.
            Run y = Run.of(HEAD + HEART + HEART + "twin 1 0;" + exams).is(0, "gains", 1, 1, 1).is(1, "gains", 0, 1, 1);
            y.is(0, "door", 1, 2);
            Run.of(HEAD + SHORTEST + "exam 0 open;".repeat(12)).is(-12, "gains", 0, 0, 0).is(0, "gains", 0, 0, 1);
            Run.of(HEAD + HEART + "exam 0 open;".repeat(12)).is(12, "gains", 0, 0, 1);
            Run.of(HEAD + HEART).is(0, "gains", 0, 0, 1);
        });
        edge(24, "-1,000: there are none such", () -> {
            noDoor(-1000, "gains", 0, 0);
            noKnock(-1000, "gains", 1, 0, 0, 0);
            noKnock(-1000, "gains", 1, 1, 0, 1);
            wrongAt(Run.of(FOUR), -1000, "gains", 2, new long[] {0, 0, 0}, -1, 2, 3, MIN, MAX);
        });
        edge(24, "(it may have twelve)", () -> {
            Run x = Run.of(HEAD + HEART + "lesson 0 3 open;".repeat(11) + "lesson 0 0 open;" + exams).mark();
            x.is(1, "gains", 0, 1, 1).is(2, "gains", 0, 3, 0).is(0, "gains", 0, 0, 0).asMarked().is(9, "deeds", 0);
            x.is(-3, "teach", 0, 1, 1).is(12, "door", 0, 2).are(new long[] {0, 1}, "lesson", 0, 11);
        });
    }

    private static void helping() {
        edge(25, "The KNOCK and what is said (2 times the KNOCK, and 1 open) by which that is most", () -> {
            Run.of(HEAD + HEART + "exam 1 open;exam 2 open;exam 2 open;").is(5, "help", 0);
            Run.of(HEAD + HEART + "lesson 0 1 open;lesson 0 2 open;exam 1 shut;exam 2 shut;exam 2 shut;").is(4, "help", 0);
            Run.of(WIDE + HEART + "exam 15 open;").is(31, "help", 0);
            Run.of(WIDE + HEART + "lesson 0 0 open;exam 0 shut;").is(0, "help", 0);
            // With twelve LESSONS one more would help as well.
            Run.of(HEAD + HEART + "lesson 0 3 shut;".repeat(12) + "exam 3 open;").is(7, "help", 0).is(12, "door", 0, 2);
        });
        edge(25, ", the least of several", () -> {
            Run.of(HEAD + HEART + "exam 3 open;exam 1 open;exam 2 open;").is(3, "help", 0);
            // By 0 shut and by 2 shut rule 1 1 is learnt.
            Run.of(HEAD + SHORTEST + "exam 0 shut;exam 2 shut;").is(0, "help", 0);
        });
        edge(25, "NONE: none brings more", () -> {
            Run.of(HEAD + HEART).is(-1, "help", 0).is(1, "teach", 0, 1, 1).is(-1, "help", 0);
            Run.of(HEAD + HEART + "lesson 0 1 open;" + TWELVE_EXAMS).is(-1, "help", 0);
            Run.of(HEAD + HEART + "exam 1 open;exam 1 shut;").is(-1, "help", 0);
            Run.of(FOUR).is(-1, "help", 3).is(3, "marks", 3);
            // Each KNOCK that shuts 0 shuts one of its neighbours too; KNOCK 8, which would not, is beyond three signs.
            Run.of("school signs 3 teachers 1;" + NEAREST + "lesson 0 7 open;exam 0 shut;exam 1 open;exam 2 open;exam 4 open;")
                    .is(-1, "help", 0).is(3, "marks", 0);
        });
        edge(25, "; -2: there is no such DOOR", () -> noDoor(-2, "help"));
    }

    private static void idle() {
        edge(26, "LESSONS of a DOOR (bits) without each of which alone its DEEDS are the same", () -> {
            // 3 shut and struck later; each of two alike; a shut one by heart.
            Run x = Run.of(FOUR).is(2, "idle", 0).is(4, "teach", 0, 1, 1).is(11, "idle", 0).is(5, "teach", 0, 0, 0).is(27, "idle", 0);
            // 1 open goes with 0 shut: rule 1 1 is the first without 1 open as well.
            x.is(1, "idle", 1).is(0, "idle", 2).mark().is(0, "idle", 2).asMarked();
            // A twin's own LESSONS are all idle.
            x.is(1, "idle", 3).is(2, "teach", 3, 0, 1).is(3, "idle", 3);
            Run.of(HEAD + HEART).is(0, "idle", 0);
            Run.of(HEAD + HEART + "lesson 0 1 open;".repeat(12)).is(0xfff, "idle", 0).is(2, "deeds", 0);
            Run.of(HEAD + NEAREST + "lesson 0 1 open;").is(0, "idle", 0);
            Run.of(HEAD + NEAREST + "lesson 0 1 shut;").is(1, "idle", 0);
        });
        edge(26, "-2: there is no such DOOR", () -> noDoor(-2, "idle"));
    }

    private static void fewest() {
        edge(27, "FEWEST (III) by a WAY", () -> {
            Run.of(HEAD).is(2, "fewest", 0, 10).is(1, "fewest", 1, 10).is(2, "fewest", 2, 10).is(3, "fewest", 2, 14);
            Run.of(HEAD).is(0, "fewest", 0, 0).is(4, "fewest", 0, 15).is(0, "fewest", 1, 15).is(4, "fewest", 1, 0);
            Run.of(WIDE).is(16, "fewest", 0, 0xffff).is(16, "fewest", 1, 0).is(1, "fewest", 2, 0xffff).is(5, "fewest", 1, 0x8000);
        });
        edge(27, "NONE: none do", () -> {
            for (int deeds : new int[] {6, 7, 9, 11, 13, 14}) {
                Run.of(HEAD).is(-1, "fewest", 1, deeds);
            }
            Run.of(WIDE).is(-1, "fewest", 1, 0xfffe).is(-1, "fewest", 1, 6);
        });
        edge(27, "; -2: there are none such (DEEDS beyond all KNOCKS)", () -> {
            for (int way = 0; way < 3; way++) {
                noDeeds(-2, "fewest", 1, way, 0);
            }
            noWay(-2, "fewest", 0, 0, 0);
        });
        edge(27, ", no SCHOOL", () -> {
            for (int way = 0; way < 3; way++) {
                noSchool(-2, "fewest", way, 0);
                noSchool(-2, "fewest", way, 1);
            }
        });
        edge(28, "The least set, as bits", () -> {
            Run.of(HEAD).is(10, "course", 0, 10).is(1, "course", 1, 10).is(3, "course", 2, 10).is(7, "course", 2, 14);
            Run.of(HEAD).is(0, "course", 0, 0).is(15, "course", 0, 15).is(0, "course", 1, 15).is(15, "course", 1, 0);
            Run.of("school signs 3 teachers 1;").is(36, "course", 1, 17).is(129, "course", 2, 23);
            Run.of(WIDE).is(0xffff, "course", 0, 0xffff).is(0xffff, "course", 1, 0).is(0xffff, "course", 2, 0x6996);
        });
        edge(28, "NONE, -2 likewise", () -> {
            Run.of(HEAD).is(-1, "course", 1, 6).is(-1, "course", 1, 14);
            for (int way = 0; way < 3; way++) {
                noDeeds(-2, "course", 1, way, 0);
                noSchool(-2, "course", way, 0);
            }
            noWay(-2, "course", 0, 0, 0);
        });
    }

    private static void sets() {
        edge(29, "How many sets of KNOCKS of just n (0 .. 16) do so", () -> {
            Run.of(HEAD).is(0, "sets", 0, 10, 1).is(1, "sets", 0, 10, 2).is(2, "sets", 0, 10, 3).is(1, "sets", 0, 10, 4);
            Run.of(HEAD).is(1, "sets", 0, 0, 0).is(4, "sets", 0, 0, 1).is(0, "sets", 1, 0, 3).is(1, "sets", 1, 0, 4);
            Run.of(HEAD).is(1, "sets", 1, 15, 0).is(4, "sets", 1, 15, 1).is(0, "sets", 1, 6, 4).is(0, "sets", 2, 15, 0);
            for (int way = 0; way < 3; way++) {
                // More than there are KNOCKS; all sixteen of four signs.
                Run.of(HEAD).is(0, "sets", way, 15, 5).is(0, "sets", way, 15, 16).is(0, "sets", way, 0, 16);
                Run.of(WIDE).is(1, "sets", way, 0xffff, 16).is(1, "sets", way, 0, 16);
            }
            Run.of(WIDE).is(12870, "sets", 0, 0, 8).is(120, "sets", 2, 0xffff, 2).is(16, "sets", 1, 0xffff, 15);
        });
        edge(29, "-2 likewise", () -> {
            for (int way = 0; way < 3; way++) {
                noDeeds(-2, "sets", 1, way, 0, 0);
                noSchool(-2, "sets", way, 0, 0);
            }
            noWay(-2, "sets", 0, 0, 0, 0);
        });
        edge(29, ", no such n", () -> {
            for (int way = 0; way < 3; way++) {
                wrongAt(Run.of(HEAD), -2, "sets", 2, new long[] {way, 0, 0}, -1, 17, 32, MIN, MAX);
                wrongAt(Run.of(WIDE), -2, "sets", 2, new long[] {way, 0xffff, 0}, -1, 17, 32, MIN, MAX);
            }
        });
    }

    private static void easiest() {
        edge(30, "The WAY by which FEWEST is least, the first of several", () -> {
            Run.of(HEAD).is(1, "easiest", 15).is(1, "easiest", 10).is(0, "easiest", 8).is(0, "easiest", 6);
            // 14 takes three by heart and three by what is nearest, 0 none by either.
            Run.of(HEAD).is(0, "easiest", 14).is(3, "fewest", 0, 14).is(3, "fewest", 2, 14).is(0, "easiest", 0);
            Run.of("school signs 3 teachers 1;").is(2, "easiest", 254).is(7, "fewest", 0, 254).is(4, "fewest", 2, 254);
            Run.of(WIDE).is(1, "easiest", 0xffff).is(0, "easiest", 0).is(2, "easiest", 0xfffe);
        });
        edge(30, "NONE: by none", () -> {
            // By heart all DEEDS can be learnt: it never comes to that.
            Run x = Run.of(HEAD);
            for (int deeds = 0; deeds < 16; deeds++) {
                long way = x.ask("easiest", deeds);
                due(1, way >= 0 && way <= 2 ? 1 : 0, "a way for", deeds);
            }
        });
        edge(30, "; -2: there are no such DEEDS", () -> noDeeds(-2, "easiest", 0, 0));
        edge(30, ", no SCHOOL", () -> {
            noSchool(-2, "easiest", 0);
            noSchool(-2, "easiest", 1);
        });
    }
}
