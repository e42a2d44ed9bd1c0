/** Promises 43 to 52, sentence by sentence. */
final class EdgesOfTwins extends Edges {
    private EdgesOfTwins() {
    }

    static void all() {
        same();
        sameRefused();
        alike();
        copy();
        hanging();
        amiss();
        fits();
        sure();
        ask();
    }

    private static void same() {
        edge(43, "COPIED: a SLOT's row, two numbers each: a KNOCK, 1 open or 0 shut: DOORS that do so in all, as bits", () -> {
            // DEEDS 10, 10, 8, 10.
            Run x = Run.of(FOUR).row(0, 1, 1).is(11, "same", 0).row(1, 3, 1).is(15, "same", 1).row(2, 1, 0).is(4, "same", 2);
            x.row(3, 3, 1, 1, 0, 0, 0).is(4, "same", 3).row(3, 3, 1, 1, 0, 0, 1).is(0, "same", 3).row(3, 2, 0, 2, 0).is(15, "same", 3);
            // Both of one KNOCK none does; of no KNOCK all do.
            x.row(0, 3, 1, 3, 0).is(0, "same", 0).row(0).is(15, "same", 0);
            // A row of sixty, of eight bytes.
            x.is(0, "row", 0, 3, 60).is(15, "same", 0).is(0, "write", 0, 59, 1).is(0, "same", 0).is(0, "write", 0, 58, 3).is(15, "same", 0);
            Run.of(HEAD).row(0, 1, 1).is(0, "same", 0).row(0).is(0, "same", 0);
            Run.of(WIDE + HEART + "lesson 0 15 open;").row(0, 15, 1, 0, 0).is(1, "same", 0);
        });
    }

    private static void sameRefused() {
        edge(43, "-2: there is no such SLOT", () -> noSlot(-2, "same", 0, 0));
        edge(43, ", no SCHOOL", () -> {
            noSchool(-2, "same", 0);
            new Run().row(0, 1, 1).is(-2, "same", 0);
            Run.of(FOUR).row(3, 1, 1).is(11, "same", 3).is(0, "school").is(-2, "same", 3).is(-2, "same", 2);
        });
        edge(43, ", a number is not so (asked last)", () -> {
            for (long knock : new long[] {-1, 4, 5, 32, 255, 1L << 32, Long.MIN_VALUE, Long.MAX_VALUE}) {
                Run x = Run.of(FOUR).is(0, "row", 0, 3, 4).is(0, "write", 0, 1, 1).is(0, "write", 0, 2, knock).is(-2, "same", 0);
                x.is(0, "write", 0, 2, 3).is(0, "write", 0, 0, knock).is(-2, "same", 0).is(0, "write", 0, 0, 0).is(0, "same", 0);
            }
            for (long open : new long[] {-1, 2, 3, 256, 1L << 32, (1L << 32) + 1, Long.MIN_VALUE, Long.MAX_VALUE}) {
                Run x = Run.of(FOUR).is(0, "row", 0, 3, 4).is(0, "write", 0, 3, open).is(-2, "same", 0);
                x.is(0, "write", 0, 3, 0).is(0, "write", 0, 1, open).is(-2, "same", 0).is(0, "write", 0, 1, 0).is(15, "same", 0);
            }
            Run.of(WIDE + HEART).row(0, 15, 0).is(1, "same", 0).row(0, 16, 0).is(-2, "same", 0);
            // The row with what is not so may stand before the SCHOOL does, and be so of another SCHOOL.
            Run.of(HEAD + HEART).row(0, 7, 0).is(-2, "same", 0).reads(2, WIDE + HEART).is(1, "same", 0);
        });
        edge(43, ", not two each", () -> {
            Run.of(FOUR).row(0, 1).is(-2, "same", 0).row(0, 1, 1, 3).is(-2, "same", 0).row(0, 1, 1, 3, 1).is(11, "same", 0);
            Run.of(FOUR).is(0, "row", 0, 0, 59).is(-2, "same", 0).is(0, "row", 0, 0, 60).is(15, "same", 0);
        });
        edge(43, "; -6: it has nothing", () -> {
            for (int slot = 0; slot < 4; slot++) {
                Run.of(FOUR).is(-6, "same", slot).row(slot).is(15, "same", slot);
            }
        });
    }

    /** -2 and -6 as same() has them, of another call that reads a SLOT's row. */
    private static void likewise(String call, long... behind) {
        long[] args = new long[behind.length + 1];
        System.arraycopy(behind, 0, args, 1, behind.length);
        noSlot(-2, call, 0, args);
        noSchool(-2, call, args);
        Run x = new Run().row(0, 1, 1).is(-2, call, args).reads(24, FOUR).row(0, 1, 4).is(-2, call, args);
        x.row(0, 4, 1).is(-2, call, args).row(0, 1, -1).is(-2, call, args).row(0, -1, 1).is(-2, call, args);
        x.row(0, 1, 1, 3, 2).is(-2, call, args).row(0, 1).is(-2, call, args).row(0, 1, 1, 3).is(-2, call, args);
        x.is(0, "row", 0, 3, 2).is(0, "write", 0, 0, 1L << 32).is(-2, call, args);
        for (int slot = 0; slot < 4; slot++) {
            args[0] = slot;
            Run.of(FOUR).is(-6, call, args).row(slot, 7, 7).is(-2, call, args).reads(0, "").is(-2, call, args);
            new Run().is(-2, call, args);
        }
    }

    private static void alike() {
        edge(44, "DOORS that have the same DEEDS as a DOOR (it aside), as bits", () -> {
            Run.of(FOUR).are(new long[] {10, 9, 0, 3}, "alike").is(4, "teach", 0, 1, 0).are(new long[] {4, 8, 1, 2}, "alike");
            Run.of(HEAD + HEART.repeat(4)).are(new long[] {14, 13, 11, 7}, "alike");
            Run.of(HEAD + HEART).is(0, "alike", 0);
            Run.of(HEAD + HEART + SHORTEST + NEAREST).are(new long[] {4, 0, 1}, "alike");
        });
        edge(44, "-2: there is no such DOOR", () -> noDoor(-2, "alike"));
    }

    private static void copy() {
        edge(45, "A DOOR copies another one (NONE: nobody) from now on: whom it copied", () -> {
            Run x = Run.of(FOUR).is(-1, "copy", 0, 2).is(2, "door", 0, 3).is(8, "deeds", 0).is(2, "copy", 0, 1).is(10, "deeds", 0);
            x.is(1, "copy", 0, 1).is(1, "copy", 0, -1).is(-1, "door", 0, 3).is(-1, "copy", 0, -1).is(1, "copy", 3, 0);
            // What they learn later too, both ways; its own LESSONS stay.
            x.is(4, "teach", 0, 0, 1).is(11, "deeds", 3).is(2, "teach", 3, 3, 0).is(11, "deeds", 3).is(0, "copy", 3, -1);
            x.is(4, "deeds", 3).is(-1, "copy", 0, 3).is(4, "deeds", 0);
            Run y = Run.of(HEAD + HEART.repeat(4)).is(-1, "copy", 0, 3).is(-1, "copy", 1, 3).is(-1, "copy", 2, 3).is(3, "copy", 0, 3);
            y.is(3, "door", 0, 3).is(3, "door", 1, 3).is(3, "door", 2, 3).is(-1, "door", 3, 3);
        });
        edge(45, "-5: the other one copies", () -> {
            Run x = Run.of(FOUR).mark().is(-5, "copy", 0, 3).is(-5, "copy", 2, 3).asMarked();
            x.is(1, "copy", 3, -1).is(-1, "copy", 0, 3).is(-5, "copy", 2, 0).is(-1, "copy", 2, 3);
        });
        edge(45, ", or it is copied", () -> {
            Run x = Run.of(FOUR).mark().is(-5, "copy", 1, 0).is(-5, "copy", 1, 2).is(-5, "copy", 1, 3).is(-5, "copy", 1, -1).asMarked();
            x.is(1, "copy", 3, 2).is(-1, "copy", 1, 0).is(-5, "copy", 2, 3).is(-5, "copy", 2, 1).is(2, "copy", 3, -1).is(-1, "copy", 2, 3);
        });
        edge(45, "; -2: there are none such", () -> {
            noDoor(-2, "copy", -1);
            noDoor(-2, "copy", 1);
            wrongAt(Run.of(FOUR), -2, "copy", 1, new long[] {0, 0}, -2, -3, 4, MIN, MAX);
            wrongAt(Run.of(TWO), -2, "copy", 1, new long[] {0, 0}, -2, 2, 3, 4);
            new Run().is(-2, "copy", 0, 1).is(-2, "copy", -1, -1);
        });
        edge(45, ", itself", () -> {
            Run.of(FOUR).mark().is(-2, "copy", 0, 0).is(-2, "copy", 1, 1).is(-2, "copy", 2, 2).is(-2, "copy", 3, 3).asMarked();
        });
    }

    private static void hanging() {
        String few = HEAD + HEART.repeat(3) + "house 0 0;".repeat(4);
        edge(46, "HANGING (V): how many KNOCKS", () -> {
            Run.of(FOUR).is(1, "hanging").is(4, "teach", 0, 1, 0).is(1, "hanging").is(1, "copy", 3, -1).is(2, "teach", 3, 3, 1).is(0, "hanging");
            Run.of(HEAD).is(0, "hanging");
            Run.of(HEAD + HEART.repeat(4)).is(0, "hanging");
            Run.of(WIDE + HEART.repeat(4) + "house 0 0;".repeat(4)).is(64, "hanging");
        });
        edge(46, "NONE: there are not as many DOORS as HOUSES", () -> {
            Run.of(few).is(-1, "hanging").reads(10, few + HEART + "exam 0 open;").is(16, "hanging");
            Run.of(HEAD + "house 0 0;").is(-1, "hanging");
            Run.of(HEAD + HEART + "house 0 0;".repeat(2)).is(-1, "hanging");
        });
        edge(46, "; -2: there is no SCHOOL", () -> noSchool(-2, "hanging"));
        edge(47, "The DOOR of a HOUSE by the first such", () -> {
            Run.of(FOUR).are(new long[] {0, 2, -2}, "hung").is(4, "teach", 0, 1, 0).are(new long[] {1, 0}, "hung");
            Run.of(HEAD + HEART.repeat(4) + "house 3 1;".repeat(4) + "lesson 3 1 open;").are(new long[] {0, 1, 2, 3}, "hung");
            Run.of(WIDE + HEART.repeat(4) + "house 0 0;".repeat(4)).are(new long[] {0, 1, 2, 3, -2}, "hung").is(64, "hanging");
            Run.of(HEAD + HEART.repeat(4) + "house 3 1;house 3 2;" + "lesson 3 1 open;lesson 2 2 open;").are(new long[] {3, 2}, "hung");
        });
        edge(47, "NONE likewise", () -> {
            Run.of(few).are(new long[] {-1, -1, -1, -1}, "hung");
            Run.of(HEAD + "house 0 0;").is(-1, "hung", 0);
        });
        edge(47, "; -2: there is no such HOUSE", () -> {
            noHouse(-2, "hung", 0, 0);
            Run.of(FOUR).is(-2, "hung", -1);
            Run.of(few).is(-2, "hung", 4).is(-2, "hung", -1);
            Run.of(HEAD + HEART).is(-2, "hung", 0);
            noSchool(-2, "hung", 0);
        });
    }

    private static void amiss() {
        edge(48, "How many KNOCKS a DOOR does not do as a HOUSE's RULE", () -> {
            long[][] due = {{0, 2}, {0, 2}, {1, 1}, {0, 2}};
            for (int door = 0; door < 4; door++) {
                Run.of(FOUR).are(due[door], "amiss", door);
            }
            Run.of(WIDE + HEART + SHORTEST + "house 0 0;house 15 15;").is(16, "amiss", 0, 0).is(0, "amiss", 1, 0).is(15, "amiss", 1, 1);
            // A HOUSE that has no DOOR, as there are too few.
            Run.of(HEAD + HEART + "house 1 1;house 0 0;").are(new long[] {2, 4, -2}, "amiss", 0);
        });
        edge(48, "-2: there are none such", () -> {
            noDoor(-2, "amiss", 0);
            noHouse(-2, "amiss", 1, 0, 0);
            Run.of(FOUR).is(-2, "amiss", 0, -1).is(-2, "amiss", 4, 2);
            Run.of(HEAD + HEART).is(-2, "amiss", 0, 0).is(-2, "amiss", 0, -1);
            Run.of(HEAD + "house 0 0;").is(-2, "amiss", 0, 0);
        });
    }

    private static void fits() {
        edge(49, "READ: of a SLOT's row as in same(): how many RULES do so in all", () -> {
            Run x = Run.of(HEAD).row(0).is(9, "fits", 0).row(0, 1, 1).is(4, "fits", 0).row(0, 1, 0).is(5, "fits", 0);
            x.row(0, 1, 1, 0, 0).is(2, "fits", 0).row(0, 1, 1, 0, 0, 3, 0).is(1, "fits", 0).row(0, 1, 1, 1, 0).is(0, "fits", 0);
            x.row(0, 1, 1, 1, 1).is(4, "fits", 0).row(0, 1, 1, 2, 1, 3, 0).is(0, "fits", 0).row(0, 0, 0, 1, 0, 2, 0, 3, 0).is(0, "fits", 0);
            Run.of(WIDE).row(3).is(81, "fits", 3).row(3, 15, 1).is(16, "fits", 3).is(0, "row", 3, 3, 60).is(65, "fits", 3);
        });
        edge(49, "-2, -6 likewise", () -> likewise("fits"));
    }

    private static void sure() {
        edge(50, "KNOCKS to which all of these open (what 0), none (1), as bits", () -> {
            long[][] rows = {{}, {1, 1}, {1, 1, 0, 0}, {0, 0}, {3, 1, 0, 0}, {0, 1, 1, 1, 2, 1, 3, 1}};
            long[][] due = {{0, 0}, {2, 0}, {2, 5}, {0, 1}, {8, 1}, {15, 0}};
            for (int i = 0; i < rows.length; i++) {
                Run.of(HEAD).row(1, rows[i]).are(due[i], "sure", 1);
            }
            Run.of(WIDE).row(1, 15, 1).are(new long[] {0x8000, 0}, "sure", 1).row(1, 15, 1, 0, 0).are(new long[] {0x8000, 1}, "sure", 1);
        });
        edge(50, "; all, if there are no such RULES", () -> {
            Run.of(HEAD).row(0, 1, 1, 1, 0).are(new long[] {15, 15}, "sure", 0).row(0, 1, 1, 2, 1, 0, 0).are(new long[] {15, 15}, "sure", 0);
            Run.of("school signs 3 teachers 1;").row(0, 1, 1, 1, 0).are(new long[] {255, 255}, "sure", 0);
            Run.of(WIDE).row(0, 1, 1, 1, 0).are(new long[] {0xffff, 0xffff}, "sure", 0);
        });
        edge(50, "-2, -6 likewise", () -> {
            likewise("sure", 0);
            likewise("sure", 1);
        });
        edge(50, ", no such what", () -> {
            wrongAt(Run.of(FOUR).row(0, 1, 1), -2, "sure", 1, new long[] {0, 0}, -1, 2, 3, MIN, MAX);
            // Asked ahead of whether the SLOT has a row, as the SLOT and the SCHOOL are.
            wrongAt(Run.of(FOUR), -2, "sure", 1, new long[] {0, 0}, -1, 2, 3, MIN, MAX);
        });
    }

    private static void ask() {
        edge(51, "ASK: the KNOCK that leaves fewest of these RULES at worst", () -> {
            // 0 shut leaves five: 1, 2 and 3 would leave three of them at worst. 0 and 1 open leave two: 2 tells them apart.
            Run.of(HEAD).row(0, 0, 0).is(1, "ask", 0).row(0, 0, 1, 1, 1).is(2, "ask", 0).row(0, 1, 1, 3, 1).is(0, "ask", 0);
            Run.of(WIDE).row(0, 15, 1, 7, 0, 11, 0, 13, 0).is(14, "ask", 0);
        });
        edge(51, ", if fewer than now, the least of several", () -> {
            Run.of(HEAD).row(0).is(0, "ask", 0).row(0, 1, 1).is(0, "ask", 0).row(0, 1, 1, 0, 0).is(3, "ask", 0);
            Run.of(WIDE).row(0).is(0, "ask", 0);
        });
        edge(51, "NONE: none", () -> {
            Run.of(HEAD).row(0, 1, 1, 0, 0, 3, 0).is(-1, "ask", 0).row(0, 1, 1, 1, 0).is(-1, "ask", 0);
            Run.of(HEAD).row(0, 0, 1, 1, 1, 2, 1, 3, 1).is(-1, "ask", 0);
        });
        edge(51, "; -2, -6 likewise", () -> likewise("ask"));
        edge(52, "How many it leaves at worst (as now without)", () -> {
            Run x = Run.of(HEAD).row(0).is(5, "leaves", 0).row(0, 1, 1).is(2, "leaves", 0).row(0, 0, 0).is(3, "leaves", 0);
            x.row(0, 0, 1, 1, 1).is(1, "leaves", 0).row(0, 1, 1, 0, 0, 3, 0).is(1, "leaves", 0).row(0, 1, 1, 1, 0).is(0, "leaves", 0);
            Run.of(WIDE).row(0).is(65, "leaves", 0);
        });
        edge(52, "-2, -6 likewise", () -> likewise("leaves"));
    }
}
