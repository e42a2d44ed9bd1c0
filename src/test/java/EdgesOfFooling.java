/** Promises 31 to 42, sentence by sentence. */
final class EdgesOfFooling extends Edges {
    private EdgesOfFooling() {
    }

    static void all() {
        fooled();
        tricks();
        hardening();
        games();
        rests();
        way();
        errors();
        next();
    }

    private static void fooled() {
        edge(31, "FOOLED (what 0), BARRED (1) of a DOOR, as bits", () -> {
            Run x = Run.of(FOUR).are(new long[] {2, 0, -2}, "fooled", 0).are(new long[] {0, 0, -2}, "fooled", 2);
            x.is(8, "owns", 3, 0).are(new long[] {10, 1}, "fooled", 0).are(new long[] {8, 1}, "fooled", 2).are(new long[] {10, 1}, "fooled", 3);
            // All sixteen, and none.
            Run y = Run.of(WIDE + HEART + SHORTEST).are(new long[] {0, 0xffff}, "fooled", 0).are(new long[] {0, 0}, "fooled", 1);
            y.is(0xffff, "owns", 15, 0).are(new long[] {0xfffe, 0}, "fooled", 1).are(new long[] {0, 1}, "fooled", 0);
        });
        edge(31, "-2: there are none such", () -> {
            for (int what = 0; what < 2; what++) {
                noDoor(-2, "fooled", what);
            }
            noWhat(2, -2, "fooled", 0);
            noWhat(2, -2, "fooled", 3);
        });
    }

    private static void tricks() {
        edge(32, "In how few signs a KNOCK must be changed so that a DOOR opens", () -> {
            Run.of(FOUR).are(new long[] {1, 0, 1, 0}, "tries", 0).are(new long[] {2, 1, 1, 0}, "tries", 2);
            Run.of(HEAD + HEART + "lesson 0 0 open;").are(new long[] {0, 1, 1, 2}, "tries", 0);
            Run.of(WIDE + HEART + "lesson 0 15 open;").is(4, "tries", 0, 0).is(0, "tries", 0, 15).is(1, "tries", 0, 7);
            Run.of(WIDE + SHORTEST).is(0, "tries", 0, 0).is(0, "tries", 0, 15);
        });
        edge(32, "NONE: it never does", () -> {
            Run.of(HEAD + HEART).are(new long[] {-1, -1, -1, -1}, "tries", 0);
            Run.of(HEAD + SHORTEST + "lesson 0 0 open;lesson 0 0 shut;").is(-1, "tries", 0, 0);
            Run.of(HEAD + NEAREST + "lesson 0 3 shut;").is(-1, "tries", 0, 3);
        });
        edge(32, "; -2: there are none such", () -> {
            noDoor(-2, "tries", 0);
            noKnock(-2, "tries", 1, 0, 0);
            Run.of(HEAD + HEART).is(-2, "tries", 0, 4).is(-2, "tries", 1, 0);
        });
        edge(33, "The KNOCK so near to which it opens, the least of several", () -> {
            Run.of(FOUR).are(new long[] {1, 1, 3, 3}, "trick", 0).are(new long[] {3, 3, 3, 3}, "trick", 2);
            Run.of(HEAD + HEART + "lesson 0 2 open;lesson 0 1 open;").are(new long[] {1, 1, 2, 1}, "trick", 0);
            Run.of(HEAD + HEART + "lesson 0 0 open;").are(new long[] {0, 0, 0, 0}, "trick", 0);
            Run.of(WIDE + HEART + "lesson 0 15 open;lesson 0 0 open;").is(0, "trick", 0, 3).is(15, "trick", 0, 7).is(0, "trick", 0, 8);
        });
        edge(33, "NONE, -2 likewise", () -> {
            Run.of(HEAD + HEART).are(new long[] {-1, -1, -1, -1}, "trick", 0).is(-2, "trick", 0, 4).is(-2, "trick", 1, 0);
            noDoor(-2, "trick", 0);
            noKnock(-2, "trick", 1, 0, 0);
        });
    }

    private static void hardening() {
        edge(34, "HARDEN: the KNOCK of which one LESSON more (as the owner's RULE does) leaves fewest FOOLED", () -> {
            Run.of(HEAD + HEART + "lesson 0 1 open;lesson 0 2 open;owner 1 1;").mark().is(2, "harden", 0).asMarked();
            // 2 shut leads to rule 1 1, 3 shut to 1 0; 0 and 1, which the owner opens to, are said to be open: no gain.
            Run.of(HEAD + SHORTEST + "owner 2 0;").is(2, "harden", 0).is(1, "left", 0);
            // With twelve LESSONS one more is tried as well.
            Run.of(WIDE + HEART + "lesson 0 15 open;".repeat(12) + "owner 1 0;").is(15, "harden", 0).is(12, "door", 0, 2);
        });
        edge(34, ", if fewer than now, the least of several", () -> {
            Run.of(HEAD + HEART + "lesson 0 2 open;lesson 0 1 open;owner 3 3;").is(1, "harden", 0);
            Run.of(HEAD + HEART + "lesson 0 0 open;lesson 0 1 open;owner 3 3;").is(0, "harden", 0);
            Run.of(HEAD + HEART + "lesson 0 3 open;owner 3 3;").is(-1, "harden", 0);
        });
        edge(34, "NONE: none", () -> {
            Run.of(FOUR).is(-1, "harden", 2).is(-1, "harden", 3).is(2, "fooled", 3, 0);
            Run.of(HEAD + HEART).is(-1, "harden", 0);
            // The nearest LESSON that was said first can't be outdone by another of its KNOCK, nor by one of 3.
            Run.of(HEAD + NEAREST + "lesson 0 0 open;lesson 0 1 shut;lesson 0 2 shut;owner 3 3;").is(-1, "harden", 0).is(1, "fooled", 0, 0);
        });
        edge(34, "; -2: there is no such DOOR", () -> noDoor(-2, "harden"));
        edge(35, "How many FOOLED there are then (as now without)", () -> {
            Run x = Run.of(HEAD + HEART + "lesson 0 1 open;lesson 0 2 open;owner 3 3;").is(1, "left", 0).is(1, "harden", 0);
            x.is(3, "teach", 0, 1, 0).is(0, "left", 0).is(4, "teach", 0, 2, 0).is(0, "left", 0).is(-1, "harden", 0);
            Run.of(FOUR).are(new long[] {0, 0, 0, 1}, "left").are(new long[] {1, 1, -1, -1}, "harden");
            // 1 shut takes the eight KNOCKS with sign 0 along, 15 (the owner's) among them; so does none better.
            Run.of(WIDE + NEAREST + "lesson 0 0 open;owner 15 15;").is(16, "often", 0).is(8, "left", 0).is(1, "harden", 0);
        });
        edge(35, "-2 likewise", () -> noDoor(-2, "left"));
    }

    private static void games() {
        edge(36, "GAME (IV): what the burglar gains by a WAY and a KNOCK", () -> {
            long[][][] due = {{{0, 1, 0}, {0, 0, 0}, {1, 1, 0}}, {{0, 1, 0}, {0, 1, 0}, {0, 1, 0}},
                {{0, 0, 0}, {0, 1, 0}, {0, 0, 0}}, {{0, 0, 1}, {1, 1, 1}, {1, 1, 1}}};
            for (int door = 0; door < 4; door++) {
                Run x = Run.of(FOUR).mark();
                for (int way = 0; way < 3; way++) {
                    x.are(due[door][way], "game", door, way);
                }
                x.asMarked();
            }
            Run.of(WIDE + HEART + "lesson 0 15 open;owner 15 0;").is(1, "game", 0, 0, 15).is(0, "game", 0, 0, 14).is(1, "game", 0, 2, 1);
        });
        edge(36, "-2: there are none such", () -> {
            noDoor(-2, "game", 0, 0);
            noDoor(-2, "game", 2, 1);
            noWay(-2, "game", 1, 0, 0, 0);
            for (int way = 0; way < 3; way++) {
                noKnock(-2, "game", 2, 0, way, 0);
            }
        });
        edge(36, ", the owner's RULE opens to it", () -> {
            for (int way = 0; way < 3; way++) {
                Run x = Run.of(FOUR).is(-2, "game", 0, way, 3).is(-2, "game", 3, way, 3).is(8, "owns", 0, 0);
                x.are(new long[] {-2, -2, -2, -2}, "game", 0, way);
                Run.of(WIDE + HEART + "owner 15 15;").is(-2, "game", 0, way, 15);
            }
            Run.of(FOUR).is(8, "owns", 2, 0).is(-2, "game", 2, 1, 1).is(1, "game", 2, 1, 3);
        });
    }

    private static void rests() {
        // By no WAY does it open to any but 0, which the owner opens to: all WAYS and KNOCKS are RESTS.
        String all = WIDE + HEART + "lesson 0 0 shut;lesson 0 0 open;owner 15 0;";
        edge(37, "How many RESTS there are", () -> {
            Run.of(FOUR).are(new long[] {3, 3, 6, 3}, "rests");
            Run.of(all).is(45, "rests", 0);
            Run.of(HEAD + HEART).is(0, "rests", 0);
            Run.of(FOUR).is(8, "owns", 0, 0).are(new long[] {0, 0, 0, 0}, "rests");
        });
        edge(37, "-2: there is no such DOOR", () -> noDoor(-2, "rests"));
        edge(38, "The first REST (WAY 0 first; 100 times the WAY and the KNOCK)", () -> {
            Run.of(FOUR).are(new long[] {100, 1, 0, 2}, "rest");
            Run.of(WIDE + HEART + "lesson 0 15 open;owner 8 0;").is(15, "rest", 0).is(3, "rests", 0);
            Run.of(WIDE + HEART + "lesson 0 15 shut;lesson 0 15 open;owner 8 0;").is(108, "rest", 0);
            // The least KNOCK that the owner does not open to.
            Run.of(all).is(1, "rest", 0);
        });
        edge(38, "NONE: there is none", () -> {
            Run.of(HEAD + HEART).is(-1, "rest", 0);
            Run.of(FOUR).is(8, "owns", 0, 0).are(new long[] {-1, -1, -1, -1}, "rest");
        });
        edge(38, "; -2 likewise", () -> noDoor(-2, "rest"));
    }

    private static void way() {
        edge(39, "The WAY by which fewest of a DOOR's KNOCKS would be done not as the owner's RULE does", () -> {
            Run.of(FOUR).is(0, "way", 2, 0).is(0, "way", 3, 0).is(1, "way", 1, 0);
            // By what is nearest 2 and 3 open, as they should; by heart and by no rule none does.
            Run x = Run.of(HEAD + HEART + "lesson 0 3 open;lesson 0 0 shut;lesson 0 1 shut;lesson 0 3 shut;owner 2 2;");
            x.is(2, "way", 0, 0).is(0, "way", 0, 1).is(0, "train", 0, 0, 1).is(2, "way", 0, 0);
        });
        edge(39, ", the first of several (what 0), how many (1)", () -> {
            Run.of(FOUR).are(new long[] {0, 1, -2}, "way", 0).are(new long[] {1, 1, -2}, "way", 1);
            Run.of(FOUR).are(new long[] {0, 0, -2}, "way", 2).are(new long[] {0, 2, -2}, "way", 3);
            // All sixteen by each WAY.
            Run.of(WIDE + HEART + "lesson 0 0 shut;lesson 0 0 open;lesson 0 0 shut;").are(new long[] {0, 16}, "way", 0);
            Run.of(WIDE + HEART).are(new long[] {1, 0}, "way", 0);
        });
        edge(39, "-2: there are none such", () -> {
            noDoor(-2, "way", 0);
            noDoor(-2, "way", 1);
            noWhat(2, -2, "way", 0);
            noWhat(2, -2, "way", 3);
        });
    }

    private static void errors() {
        edge(40, "ERRORS by a WAY: of all RULES, each taught by LESSONS of a set of KNOCKS (bits, in order)", () -> {
            long[][] due = {{16, 12, 12, 8}, {20, 14, 14, 6}, {16, 14, 14, 8}};
            for (int way = 0; way < 3; way++) {
                Run.of(HEAD).are(due[way], "errors", way);
                // What the DOORS have learnt, and what the owner's RULE is, does not count.
                Run.of(FOUR).are(due[way], "errors", way);
            }
            // In order: of 0, 1, 3 and 4, told the other way round, but four RULES would be learnt whole (and ERRORS be as many).
            Run.of("school signs 3 teachers 1;").is(7, "learnt", 2, 27).is(32, "errors", 2, 27);
            Run.of(HEAD).is(8, "errors", 2, 9).is(8, "errors", 1, 9);
        });
        edge(40, ", how many KNOCKS are done not as it does, together", () -> {
            for (int way = 0; way < 3; way++) {
                Run.of(HEAD).is(0, "errors", way, 15);
                Run.of(WIDE).is(0, "errors", way, 0xffff);
            }
            // 81 RULES open to 256 KNOCKS together; nothing said, the shortest rule opens to all 16 each time.
            Run.of(WIDE).is(256, "errors", 0, 0).is(1040, "errors", 1, 0).is(256, "errors", 2, 0).is(240, "errors", 0, 0x8000);
        });
        edge(40, "-2: there are none such", () -> {
            for (int way = 0; way < 3; way++) {
                noDeeds(-2, "errors", 1, way, 0);
            }
            noWay(-2, "errors", 0, 0, 0);
        });
        edge(40, ", no SCHOOL", () -> {
            noSchool(-2, "errors", 0, 0);
            noSchool(-2, "errors", 1, 1);
        });
        edge(41, "How many RULES are learnt whole by that", () -> {
            long[][] due = {{0, 1, 1, 3}, {1, 2, 2, 4}, {0, 1, 1, 3}};
            for (int way = 0; way < 3; way++) {
                Run.of(HEAD).are(due[way], "learnt", way).is(9, "learnt", way, 15);
                Run.of(WIDE).is(81, "learnt", way, 0xffff).is(way == 1 ? 1 : 0, "learnt", way, 0);
            }
            Run.of("school signs 3 teachers 1;").is(7, "learnt", 2, 27).is(11, "learnt", 2, 31);
        });
        edge(41, "-2 likewise", () -> {
            for (int way = 0; way < 3; way++) {
                noDeeds(-2, "learnt", 1, way, 0);
                noSchool(-2, "learnt", way, 0);
            }
            noWay(-2, "learnt", 0, 0, 0);
        });
    }

    private static void next() {
        edge(42, "The KNOCK that, besides a set, leaves fewest ERRORS, the least of several", () -> {
            Run.of(HEAD).is(0, "next", 1, 0).is(1, "next", 0, 1).is(0, "next", 0, 2).is(3, "next", 2, 7).is(0, "next", 0, 14);
            Run.of(WIDE).is(15, "next", 0, 0x7fff).is(0, "next", 1, 0xfffe).is(0, "next", 0, 0).is(1, "next", 0, 1);
            for (int set : new int[] {0, 1, 3, 24, 129, 254}) {
                for (int way = 0; way < 3; way++) {
                    Run x = Run.of("school signs 3 teachers 1;");
                    int best = -1;
                    long fewest = MAX;
                    for (int knock = 0; knock < 8; knock++) {
                        if ((set >> knock & 1) == 0 && x.ask("errors", way, set | 1 << knock) < fewest) {
                            fewest = x.ask("errors", way, set | 1 << knock);
                            best = knock;
                        }
                    }
                    x.is(best, "next", way, set);
                }
            }
        });
        edge(42, "NONE: the set has all", () -> {
            for (int way = 0; way < 3; way++) {
                Run.of(HEAD).is(-1, "next", way, 15);
                Run.of(WIDE).is(-1, "next", way, 0xffff);
            }
        });
        edge(42, "; -2 likewise", () -> {
            for (int way = 0; way < 3; way++) {
                noDeeds(-2, "next", 1, way, 0);
                noSchool(-2, "next", way, 0);
            }
            noWay(-2, "next", 0, 0, 0);
        });
    }
}
