/** Promises 6 to 17, sentence by sentence. */
final class EdgesOfDoors extends Edges {
    /** Twelve LESSONS, exams, and all else as many as there may be, of four signs. */
    private static final String FULL = WIDE + "door heart slips 50;door shortest slips 49;door nearest slips 1;door heart slips 0;"
            + "lesson 3 15 open;".repeat(11) + "lesson 3 15 shut;" + "exam 15 open;".repeat(11) + "exam 15 shut;"
            + "house 15 15;house 0 0;house 8 8;house 15 0;owner 15 15;";

    private EdgesOfDoors() {
    }

    static void all() {
        door();
        lesson();
        exam();
        house();
        doing();
        why();
        rule();
        ruleDeeds();
    }

    private static void door() {
        edge(6, "Of a DOOR, what 0: its WAY, 1: slips, 2: how many LESSONS, 3: whom it copies (NONE)", () -> {
            long[][] due = {{0, 10, 3, -1}, {1, 20, 2, -1}, {2, 30, 2, -1}, {0, 40, 1, 1}};
            for (int door = 0; door < 4; door++) {
                Run.of(FOUR).are(due[door], "door", door);
            }
            Run.of(FULL).are(new long[] {0, 50, 0, -1}, "door", 0).are(new long[] {0, 0, 12, -1}, "door", 3);
            Run.of(HEAD + HEART + NEAREST + "twin 1 0;").are(new long[] {2, 0, 0, 0}, "door", 1);
            Run x = Run.of(FOUR).is(2, "teach", 3, 0, 0).is(1, "copy", 3, -1).are(new long[] {0, 40, 2, -1}, "door", 3);
            x.is(3, "unteach").is(-1, "copy", 3, 0).are(new long[] {0, 40, 1, 0}, "door", 3);
        });
        edge(6, "-2: there are none such", () -> {
            for (int what = 0; what < 4; what++) {
                noDoor(-2, "door", what);
                noWhat(4, -2, "door", what);
            }
        });
    }

    private static void lesson() {
        edge(7, "Of LESSON i of a DOOR, what 0: the KNOCK, 1: 1 open, 0 shut", () -> {
            Run x = Run.of(FOUR).are(new long[] {1, 1}, "lesson", 0, 0).are(new long[] {3, 0}, "lesson", 0, 1);
            x.are(new long[] {3, 1}, "lesson", 0, 2).are(new long[] {0, 0}, "lesson", 1, 1).are(new long[] {2, 1}, "lesson", 3, 0);
            x.is(2, "teach", 3, 0, 0).are(new long[] {0, 0}, "lesson", 3, 1);
            Run.of(FULL).are(new long[] {15, 1}, "lesson", 3, 10).are(new long[] {15, 0}, "lesson", 3, 11);
        });
        edge(7, "NONE: there is none such", () -> {
            wrongAt(Run.of(FOUR), -1, "lesson", 1, new long[] {0, 0, 0}, -1, 3, 11, 12, 13, MIN, MAX);
            wrongAt(Run.of(FOUR), -1, "lesson", 1, new long[] {3, 0, 1}, -1, 1, 2);
            Run.of(FULL).is(-1, "lesson", 3, 12, 0).is(-1, "lesson", 3, 13, 1).is(-1, "lesson", 0, 0, 0).is(-1, "lesson", 2, -1, 0);
            Run x = Run.of(FOUR).is(-1, "lesson", 0, 3, 0).is(4, "teach", 0, 2, 1).is(2, "lesson", 0, 3, 0);
            x.is(0, "unteach").is(-1, "lesson", 0, 3, 0);
        });
        edge(7, "; -2: there is no such DOOR, what", () -> {
            noDoor(-2, "lesson", 0, 0);
            noDoor(-2, "lesson", 9, 1);
            noWhat(2, -2, "lesson", 0, 0);
            noWhat(2, -2, "lesson", 3, 0);
        });
    }

    private static void exam() {
        edge(8, "Of an EXAM, what 0: the KNOCK, 1: 1 open, 0 shut", () -> {
            Run x = Run.of(FOUR).are(new long[] {1, 1}, "exam", 0).are(new long[] {2, 0}, "exam", 1);
            x.are(new long[] {3, 1}, "exam", 2).are(new long[] {0, 1}, "exam", 3);
            Run.of(FULL).are(new long[] {15, 1}, "exam", 0).are(new long[] {15, 1}, "exam", 10).are(new long[] {15, 0}, "exam", 11);
        });
        edge(8, "-2: there are none such", () -> {
            for (int what = 0; what < 2; what++) {
                wrongAt(Run.of(FOUR), -2, "exam", 0, new long[] {0, what}, -1, 4, 11, 12, MIN, MAX);
                wrongAt(Run.of(FULL), -2, "exam", 0, new long[] {0, what}, -1, 12, 13);
                wrongAt(Run.of(HEAD), -2, "exam", 0, new long[] {0, what}, -1, 0, 1);
                noSchool(-2, "exam", 0, what);
            }
            noWhat(2, -2, "exam", 0);
            noWhat(2, -2, "exam", 3);
        });
    }

    private static void house() {
        edge(9, "Of a HOUSE (NONE: the owner), what 0: M, 1: V, 2: how many KNOCKS it opens to", () -> {
            Run x = Run.of(FOUR).are(new long[] {3, 3, 1}, "house", -1).are(new long[] {1, 1, 2}, "house", 0);
            x.are(new long[] {2, 2, 2}, "house", 1);
            Run y = Run.of(FULL).are(new long[] {15, 15, 1}, "house", 0).are(new long[] {0, 0, 16}, "house", 1);
            y.are(new long[] {8, 8, 8}, "house", 2).are(new long[] {15, 0, 1}, "house", 3).are(new long[] {15, 15, 1}, "house", -1);
            Run.of(HEAD).are(new long[] {0, 0, 4}, "house", -1).is(15, "owns", 3, 1).are(new long[] {3, 1, 1}, "house", -1);
        });
        edge(9, "-2: there are none such", () -> {
            for (int what = 0; what < 3; what++) {
                wrongAt(Run.of(FOUR), -2, "house", 0, new long[] {0, what}, -2, -3, 2, 3, 4, MIN, MAX);
                wrongAt(Run.of(FULL), -2, "house", 0, new long[] {0, what}, -2, 4);
                wrongAt(Run.of(HEAD), -2, "house", 0, new long[] {0, what}, 0, 1);
            }
            noWhat(3, -2, "house", 0);
            noWhat(3, -2, "house", 1);
            noWhat(3, -2, "house", -1);
        });
        edge(9, ", no SCHOOL", () -> {
            for (int what = 0; what < 3; what++) {
                noSchool(-2, "house", -1, what);
                noSchool(-2, "house", 0, what);
            }
        });
    }

    private static void doing() {
        edge(10, "Whether a DOOR opens to a KNOCK: 1, 0", () -> {
            Run x = Run.of(FOUR).are(new long[] {0, 1, 0, 1, -2}, "opens", 0).are(new long[] {0, 1, 0, 1, -2}, "opens", 1);
            x.are(new long[] {0, 0, 0, 1, -2}, "opens", 2).are(new long[] {0, 1, 0, 1, -2}, "opens", 3);
            Run.of(WIDE + NEAREST + "lesson 0 15 open;").is(1, "opens", 0, 0).is(1, "opens", 0, 15).is(-2, "opens", 0, 16);
        });
        edge(10, "-2: there are none such", () -> {
            noDoor(-2, "opens", 0);
            noDoor(-2, "opens", 3);
            noKnock(-2, "opens", 1, 0, 0);
            noKnock(-2, "opens", 1, 1, 0);
        });
        edge(11, "DEEDS of a DOOR", () -> {
            Run.of(FOUR).are(new long[] {10, 10, 8, 10}, "deeds");
            // None at all, and all sixteen.
            Run.of(WIDE + HEART + SHORTEST + NEAREST).are(new long[] {0, 0xffff, 0}, "deeds");
            Run.of(WIDE + HEART + "lesson 0 15 open;").is(0x8000, "deeds", 0);
        });
        edge(11, "-2: there is none such", () -> noDoor(-2, "deeds"));
        edge(12, "To how many KNOCKS it opens", () -> {
            Run.of(FOUR).are(new long[] {2, 2, 1, 2}, "often");
            Run.of(WIDE + HEART + SHORTEST + NEAREST).are(new long[] {0, 16, 0}, "often");
        });
        edge(12, "-2 likewise", () -> noDoor(-2, "often"));
    }

    private static void why() {
        edge(13, "The LESSON by which a DOOR (or whom it copies) does so to a KNOCK (HEART: the latest of that KNOCK; NEAREST)", () -> {
            Run x = Run.of(FOUR).are(new long[] {-1, 0, -1, 2}, "why", 0).are(new long[] {0, 0, 0, 1}, "why", 2);
            x.is(4, "teach", 0, 1, 0).is(3, "why", 0, 1).is(0, "opens", 0, 1);
            // A twin goes by a LESSON of whom it copies, not by its own.
            x.is(1, "copy", 3, 0).are(new long[] {-1, 3, -1, 2}, "why", 3).is(0, "copy", 3, 2);
            x.are(new long[] {0, 0, 0, 1}, "why", 3).is(2, "copy", 3, -1).are(new long[] {-1, -1, 0, -1}, "why", 3);
            // The first of two LESSONS as near; the last of twelve; four signs off.
            Run.of(HEAD + NEAREST + "lesson 0 2 open;lesson 0 1 shut;").are(new long[] {0, 1, 0, 0}, "why", 0);
            Run.of(WIDE + HEART + "lesson 0 15 open;".repeat(12)).is(11, "why", 0, 15).is(-1, "why", 0, 0);
            Run.of(WIDE + NEAREST + "lesson 0 15 open;".repeat(12)).is(0, "why", 0, 15).is(0, "why", 0, 0);
        });
        edge(13, "NONE: it goes by none, by a RULE", () -> {
            Run.of(FOUR).are(new long[] {-1, -1, -1, -1}, "why", 1).are(new long[] {-1, -1, -1, -1}, "why", 3);
            Run.of(FOUR).is(-1, "why", 0, 0).is(-1, "why", 0, 2);
            Run x = Run.of(HEAD + HEART + SHORTEST + NEAREST);
            for (int door = 0; door < 3; door++) {
                x.are(new long[] {-1, -1, -1, -1}, "why", door);
            }
        });
        edge(13, "-2: there are none such", () -> {
            noDoor(-2, "why", 0);
            for (int door = 0; door < 4; door++) {
                noKnock(-2, "why", 1, door, 0);
            }
        });
    }

    private static void rule() {
        edge(14, "The RULE that SHORTEST learns from a DOOR's own LESSONS (whatever its WAY)", () -> {
            Run x = Run.of(FOUR).is(1, "rule", 1, 0).is(1, "rule", 1, 1).is(1, "rule", 2, 0).is(1, "rule", 2, 1);
            // The twin's own LESSON leaves all RULES that open to 2; nothing said, the first of all does.
            x.is(0, "rule", 3, 0).is(2, "teach", 3, 0, 0).is(2, "rule", 3, 0).is(2, "rule", 3, 1);
            x.is(2, "train", 2, 0, 0).is(1, "rule", 2, 0);
            Run.of(HEAD + HEART).are(new long[] {0, 0, 0}, "rule", 0);
        });
        edge(14, ", what 0: M, 1: V, 2: its place in order (from 0)", () -> {
            Run.of(FOUR).are(new long[] {1, 1, 2}, "rule", 1).are(new long[] {0, 0, 0}, "rule", 3);
            Run x = Run.of(WIDE + HEART + "lesson 0 15 open;lesson 0 7 shut;lesson 0 11 shut;lesson 0 13 shut;lesson 0 14 shut;");
            x.are(new long[] {15, 15, 80}, "rule", 0);
        });
        edge(14, "NONE: there is none", () -> {
            Run.of(FOUR).are(new long[] {-1, -1, -1}, "rule", 0).is(0, "rules", 0);
            Run.of(HEAD + HEART + "lesson 0 1 open;lesson 0 2 open;lesson 0 3 shut;").are(new long[] {-1, -1, -1}, "rule", 0);
        });
        edge(14, "; -2: there are none such", () -> {
            for (int what = 0; what < 3; what++) {
                noDoor(-2, "rule", what);
            }
            noWhat(3, -2, "rule", 0);
            noWhat(3, -2, "rule", 1);
        });
        edge(15, "How many RULES do as its LESSONS say", () -> {
            // 0 for contrary LESSONS; 1 1 and 3 1; 1 1, 2 2 and 3 3; for the twin's own: 0 0, 1 0, 2 2 and 3 2.
            Run.of(FOUR).are(new long[] {0, 2, 3, 4}, "rules");
            Run.of(HEAD + HEART).is(9, "rules", 0);
            Run.of("school signs 3 teachers 1;" + NEAREST).is(27, "rules", 0);
            Run.of(WIDE + SHORTEST).is(81, "rules", 0).is(1, "teach", 0, 15, 1).is(16, "rules", 0);
        });
        edge(15, "-2: there is no such DOOR", () -> noDoor(-2, "rules"));
    }

    private static void ruleDeeds() {
        edge(16, "DEEDS of RULE M V", () -> {
            Run.of(FOUR).is(15, "does", 0, 0).is(10, "does", 1, 1).is(1, "does", 3, 0).is(8, "does", 3, 3);
            Run.of(WIDE).is(0xffff, "does", 0, 0).is(0x8000, "does", 15, 15).is(1, "does", 15, 0);
        });
        edge(16, "-2: there is none such", () -> {
            noKnock(-2, "does", 0, 0, 0);
            wrongAt(Run.of(FOUR), -2, "does", 1, new long[] {0, 0}, -1, 1, 2, 3, 4, MIN, MAX);
            wrongAt(Run.of(FOUR), -2, "does", 1, new long[] {1, 0}, -1, 2, 3, 5, MIN, MAX);
            wrongAt(Run.of(FOUR), -2, "does", 1, new long[] {2, 0}, -1, 1, 3, 6, MIN, MAX);
            wrongAt(Run.of(FOUR), -2, "does", 1, new long[] {3, 0}, -1, 4, 7, MIN, MAX);
            Run.of(FOUR).is(-2, "does", -1, -1).is(-2, "does", 4, 4).is(-2, "does", MIN, MIN).is(-2, "does", MAX, 3);
        });
        edge(16, ", no SCHOOL", () -> noSchool(-2, "does", 0, 0));
        edge(17, "The first RULE with DEEDS (what 0: M, 1: V)", () -> {
            int[][] due = {{15, 0, 0}, {5, 1, 0}, {10, 1, 1}, {3, 2, 0}, {12, 2, 2}, {1, 3, 0}, {2, 3, 1}, {4, 3, 2}, {8, 3, 3}};
            for (int[] rule : due) {
                Run.of(HEAD).are(new long[] {rule[1], rule[2]}, "told", rule[0]);
            }
            Run.of(WIDE).are(new long[] {0, 0}, "told", 0xffff).are(new long[] {15, 15}, "told", 0x8000);
        });
        edge(17, "NONE: none has them", () -> {
            for (int deeds : new int[] {0, 6, 7, 9, 11, 13, 14}) {
                Run.of(HEAD).are(new long[] {-1, -1}, "told", deeds);
            }
            Run.of(WIDE).is(-1, "told", 0, 0).is(-1, "told", 15 << 1, 0).is(-1, "told", 0xfffe, 1);
        });
        edge(17, "; -2: there are none such (DEEDS beyond all KNOCKS)", () -> {
            for (int what = 0; what < 2; what++) {
                noDeeds(-2, "told", 0, 0, what);
            }
            noWhat(2, -2, "told", 15);
            noWhat(2, -2, "told", 6);
        });
        edge(17, ", no SCHOOL", () -> {
            noSchool(-2, "told", 0, 0);
            noSchool(-2, "told", 1, 1);
        });
    }
}
