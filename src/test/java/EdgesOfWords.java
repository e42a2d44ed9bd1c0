import java.math.BigInteger;

/** What the Terms say from RULES on (II to VII), sentence by sentence. */
final class EdgesOfWords extends Edges {
    private EdgesOfWords() {
    }

    static void all() {
        rules();
        ways();
        fewest();
        fooled();
        games();
        hanging();
        courses();
        storms();
        edge(TERMS, "-2 comes ahead of -5, where both fit and nothing else is told", () -> {
            Run x = Run.of(FOUR).mark();
            x.is(-2, "copy", 1, 4).is(-2, "copy", 1, 1).is(-2, "copy", 1, -2).is(-2, "copy", 4, 3).asMarked();
            new Run().is(-2, "unteach");
            Run.of(FOUR).is(4, "teach", 0, 0, 0).is(0, "school").is(-2, "unteach");
        });
    }

    // ---- II ----

    private static void rules() {
        edge(TERMS, "II. RULE M V: it opens to a KNOCK that has, of the signs M, just V", () -> {
            Run x = Run.of(HEAD);
            int[][] due = {{0, 0, 15}, {1, 0, 5}, {1, 1, 10}, {2, 0, 3}, {2, 2, 12}, {3, 0, 1}, {3, 1, 2}, {3, 2, 4}, {3, 3, 8}};
            for (int[] rule : due) {
                x.is(rule[2], "does", rule[0], rule[1]);
            }
            Run.of(WIDE).is(1, "does", 15, 0).is(0x8000, "does", 15, 15).is(0xffff, "does", 0, 0).is(0x0202, "does", 7, 1);
        });
        edge(TERMS, "RULES in order: fewer signs in M, then the lesser M, then the lesser V", () -> {
            int[] orderOfThree = {0, 1, 2, 4, 3, 5, 6, 7};
            int place = 0;
            for (int m : orderOfThree) {
                for (int v = 0; v < 8; v++) {
                    if ((v & ~m) == 0) {
                        StringBuilder text = new StringBuilder("school signs 3 teachers 1;" + HEART);
                        for (int knock = 0; knock < 8; knock++) {
                            text.append("lesson 0 ").append(knock).append((knock & m) == v ? " open;" : " shut;");
                        }
                        Run.of(text.toString()).are(new long[] {m, v, place}, "rule", 0).is(1, "rules", 0);
                        place++;
                    }
                }
            }
            // The last of four signs: 15 open and its four neighbours shut. The first of one sign, of two, of three.
            String wide = WIDE + HEART;
            Run.of(wide + said(15, 7, 11, 13, 14)).are(new long[] {15, 15, 80}, "rule", 0);
            Run.of(wide + said(0, 15)).are(new long[] {1, 0, 1}, "rule", 0);
            Run.of(wide + said(8, 0)).are(new long[] {8, 8, 8}, "rule", 0);
            Run.of(wide + said(0, 1, 2, 4, 8)).are(new long[] {15, 0, 65}, "rule", 0);
            // 8 8 (one sign) comes ahead of 3 0 (two signs), though 3 is the lesser.
            Run.of(wide + said(8, 1, 2)).are(new long[] {8, 8, 8}, "rule", 0);
        });
        edge(TERMS, "DEEDS: KNOCKS to which one opens, as bits", () -> {
            Run.of(WIDE + HEART + "lesson 0 0 open;lesson 0 15 open;lesson 0 3 shut;").is(0x8001, "deeds", 0);
            Run.of(FOUR).are(new long[] {10, 10, 8, 10}, "deeds");
        });
    }

    /** LESSONS of DOOR 0: the first KNOCK open, the others shut. */
    private static String said(int open, int... shut) {
        StringBuilder text = new StringBuilder("lesson 0 " + open + " open;");
        for (int knock : shut) {
            text.append("lesson 0 ").append(knock).append(" shut;");
        }
        return text.toString();
    }

    private static void ways() {
        edge(TERMS, "WAYS of learning LESSONS: 0 HEART: it opens to a KNOCK of which the latest LESSON says open", () -> {
            Run x = Run.of(HEAD + HEART + "lesson 0 2 shut;lesson 0 2 open;lesson 0 1 open;lesson 0 3 open;lesson 0 3 shut;");
            x.is(0, "door", 0, 0).is(6, "deeds", 0).is(6, "teach", 0, 2, 0).is(2, "deeds", 0).is(7, "teach", 0, 2, 1);
            x.is(6, "deeds", 0);
        });
        edge(TERMS, "; to all others not", () -> {
            Run.of(HEAD + HEART).is(0, "deeds", 0).is(1, "teach", 0, 0, 1).is(1, "deeds", 0);
            Run.of(WIDE + HEART + "lesson 0 3 shut;").is(0, "deeds", 0);
        });
        edge(TERMS, "1 SHORTEST: it does as the first RULE that does as all LESSONS say", () -> {
            Run x = Run.of(HEAD + SHORTEST).is(1, "door", 0, 0).is(15, "deeds", 0).is(1, "teach", 0, 0, 0).is(10, "deeds", 0);
            x.is(2, "teach", 0, 1, 0).is(12, "deeds", 0).is(3, "teach", 0, 2, 0).is(8, "deeds", 0);
            Run.of(HEAD + SHORTEST + "lesson 0 3 shut;lesson 0 0 shut;lesson 0 2 open;").is(4, "deeds", 0);
        });
        edge(TERMS, "; without such a one it never opens", () -> {
            Run.of(HEAD + SHORTEST + "lesson 0 3 shut;lesson 0 3 open;").is(0, "deeds", 0);
            Run.of(HEAD + SHORTEST + "lesson 0 1 open;lesson 0 2 open;lesson 0 0 shut;").is(0, "deeds", 0);
            Run.of(HEAD + SHORTEST + "lesson 0 0 shut;lesson 0 1 shut;lesson 0 2 shut;lesson 0 3 shut;").is(0, "deeds", 0);
        });
        edge(TERMS, "2 NEAREST: it does as the LESSON whose KNOCK differs in fewest signs from this one, the first of several", () -> {
            Run x = Run.of(WIDE + NEAREST + "lesson 0 15 open;").is(2, "door", 0, 0).is(0xffff, "deeds", 0);
            // 0 has those of fewer than two signs nearer; of two signs the first said counts.
            x.is(2, "teach", 0, 0, 0).is(0xfee8, "deeds", 0);
            Run.of(WIDE + NEAREST + "lesson 0 0 shut;lesson 0 15 open;").is(0xe880, "deeds", 0);
            Run.of(HEAD + NEAREST + "lesson 0 2 open;lesson 0 1 shut;").is(0b1101, "deeds", 0);
            Run.of(HEAD + NEAREST + "lesson 0 3 shut;lesson 0 3 open;").is(0, "deeds", 0);
        });
        edge(TERMS, "; without LESSONS it never opens", () -> {
            Run.of(HEAD + NEAREST).is(0, "deeds", 0).is(1, "teach", 0, 0, 1).is(15, "deeds", 0).is(0, "unteach").is(0, "deeds", 0);
        });
        edge(TERMS, "A twin does as the DOOR that it copies", () -> {
            Run x = Run.of(HEAD + NEAREST + HEART + "lesson 0 3 open;lesson 1 1 open;twin 0 1;").is(2, "deeds", 0);
            x.is(2, "teach", 0, 0, 0).is(2, "deeds", 0).is(2, "teach", 1, 2, 1).is(6, "deeds", 0).is(0, "train", 1, 0, 1);
            x.is(15, "deeds", 0).is(1, "copy", 0, -1).is(14, "deeds", 0);
        });
    }

    // ---- III ----

    private static void fewest() {
        edge(TERMS, "III. FEWEST: LESSONS of unlike KNOCKS (told in order of numbers), each as DEEDS say", () -> {
            // Of 0 and 3, told in order, 0 is the first for 1 and 2; the other way round they would go by 3.
            Run.of(HEAD).is(1, "sets", 2, 8, 2).is(9, "course", 2, 8).is(9, "course", 2, 7).is(7, "course", 2, 14);
            // Two LESSONS of one KNOCK can't be told: there are but as many sets as there are unlike KNOCKS.
            Run.of(HEAD).is(4, "sets", 2, 15, 1).is(6, "sets", 2, 15, 2).is(1, "sets", 2, 15, 4).is(0, "sets", 2, 15, 5);
        });
        edge(TERMS, ", by which a DOOR that learns them alone by a WAY has just these DEEDS: the fewest", () -> {
            // What the DOORS of the SCHOOL have learnt does not count.
            Run.of(FOUR).is(2, "fewest", 0, 10).is(1, "fewest", 1, 10).is(2, "fewest", 2, 10).is(0, "fewest", 0, 0);
            Run.of(HEAD).is(2, "fewest", 0, 10).is(1, "fewest", 1, 10).is(2, "fewest", 2, 10).is(0, "fewest", 0, 0);
            Run.of(HEAD).is(0, "fewest", 1, 15).is(4, "fewest", 1, 0).is(4, "fewest", 2, 6).is(1, "fewest", 2, 15);
            Run.of(WIDE).is(16, "fewest", 0, 0xffff).is(16, "fewest", 1, 0).is(16, "fewest", 2, 0x6996);
        });
        edge(TERMS, "; the least set of KNOCKS (as bits)", () -> {
            // 2 and 5 tell rule 3 0; 0, 1 and 2 would as well, are less as bits, and are three.
            Run.of("school signs 3 teachers 1;").is(2, "fewest", 1, 17).is(36, "course", 1, 17);
            // 0 and 7 tell 0, 1, 2 and 4; 0, 3, 5 and 6 are less as bits.
            Run.of("school signs 3 teachers 1;").is(2, "fewest", 2, 23).is(129, "course", 2, 23);
            Run.of(HEAD).is(1, "course", 2, 15).is(1, "course", 1, 10).is(3, "course", 2, 10);
        });
    }

    // ---- IV ----

    private static void fooled() {
        edge(TERMS, "IV. FOOLED: KNOCKS to which a DOOR opens and the owner's RULE does not", () -> {
            Run x = Run.of(FOUR).is(2, "fooled", 0, 0).is(0, "fooled", 2, 0).is(2, "fooled", 3, 0);
            x.is(8, "owns", 3, 0).is(10, "fooled", 0, 0).is(8, "fooled", 2, 0).is(1, "owns", 0, 0).is(0, "fooled", 0, 0);
        });
        edge(TERMS, "BARRED: to which the owner's RULE opens and the DOOR does not", () -> {
            Run x = Run.of(FOUR).is(0, "fooled", 0, 1).is(0, "fooled", 2, 1);
            x.is(8, "owns", 3, 0).is(1, "fooled", 0, 1).is(1, "owns", 0, 0).is(5, "fooled", 0, 1).is(7, "fooled", 2, 1);
        });
    }

    private static void games() {
        edge(TERMS, "GAME: the school gives all LESSONS of a DOOR to one that learns by a WAY", () -> {
            // 1 open, 3 shut, 3 open: by heart 1 and 3, by no rule, by what is nearest 0 and 1.
            Run x = Run.of(FOUR).are(new long[] {0, 1, 0, -2}, "game", 0, 0).are(new long[] {0, 0, 0, -2}, "game", 0, 1);
            x.are(new long[] {1, 1, 0, -2}, "game", 0, 2).is(0, "train", 0, 0, 2).are(new long[] {0, 1, 0, -2}, "game", 0, 0);
            // With twelve LESSONS the last one counts too.
            Run y = Run.of(HEAD + HEART + "lesson 0 1 shut;".repeat(11) + "lesson 0 1 open;owner 3 3;");
            y.is(1, "game", 0, 0, 1).is(0, "game", 0, 1, 1).is(0, "game", 0, 2, 1);
            // Without LESSONS the shortest rule opens to all.
            Run z = Run.of(HEAD + HEART + "owner 3 3;").is(0, "game", 0, 0, 0).is(1, "game", 0, 1, 0).is(0, "game", 0, 2, 0);
            z.are(new long[] {1, 1, 1, -2}, "game", 0, 1);
        });
        edge(TERMS, "; the burglar comes with a KNOCK to which the owner's RULE does not open; he gains 1, if that opens", () -> {
            Run x = Run.of(FOUR).is(1, "game", 0, 0, 1).is(0, "game", 0, 0, 0).is(-2, "game", 0, 0, 3).is(8, "owns", 1, 1);
            x.are(new long[] {0, -2, 0, -2}, "game", 0, 0).is(10, "owns", 1, 0).are(new long[] {-2, 1, -2, 1}, "game", 0, 0);
            x.is(5, "owns", 0, 0).are(new long[] {-2, -2, -2, -2}, "game", 0, 0).is(0, "rests", 0);
        });
        edge(TERMS, "REST: a WAY and a KNOCK such that no other KNOCK gains more by that WAY", () -> {
            // By heart 1 alone gains, by the others all do: at 0 and 2 the burglar would rather come with 1.
            Run.of(HEAD + HEART + "lesson 0 1 open;owner 3 3;").is(3, "rests", 0).is(1, "rest", 0);
        });
        edge(TERMS, ", and by no other WAY that KNOCK gains less", () -> {
            // By no rule none gains: the school would rather have that than the other WAYS.
            Run.of(FOUR).is(3, "rests", 0).is(100, "rest", 0);
        });
    }

    // ---- V, VI ----

    private static void hanging() {
        edge(TERMS, "V. HANGING: unlike DOORS in HOUSES (each HOUSE one, if there are as many DOORS)", () -> {
            // DOOR 1 would do in both HOUSES, and hangs in one.
            Run x = Run.of(HEAD + HEART.repeat(3) + "lesson 1 1 open;house 3 1;house 3 1;").is(1, "hanging");
            x.are(new long[] {0, 1, -2}, "hung");
            Run.of(HEAD + HEART + "house 0 0;").is(4, "hanging").is(0, "hung", 0);
            Run.of(HEAD + HEART.repeat(4) + "house 3 3;".repeat(4)).is(4, "hanging").are(new long[] {0, 1, 2, 3, -2}, "hung");
            Run.of(HEAD + HEART + "house 3 3;house 3 3;").is(-1, "hanging").is(-1, "hung", 0);
        });
        edge(TERMS, ", so that KNOCKS to which a DOOR does not do as its HOUSE's RULE are fewest, together", () -> {
            // DOOR 0 is the better one in HOUSE 0 (1 against 2), but DOOR 1 would have 4 in HOUSE 1.
            Run x = Run.of(HEAD + HEART + HEART + "lesson 0 1 open;lesson 1 2 open;lesson 1 3 open;house 1 1;house 2 0;");
            x.is(3, "hanging").are(new long[] {1, 0}, "hung");
        });
        edge(TERMS, "; the first row of DOORS by HOUSES", () -> {
            Run x = Run.of(HEAD + HEART.repeat(4) + "house 1 1;house 3 1;house 0 0;").is(7, "hanging");
            x.are(new long[] {0, 1, 2}, "hung");
            // Both rows have 2 amiss: HOUSE 0 has the lesser DOOR.
            Run y = Run.of(HEAD + HEART + HEART + "lesson 0 1 open;house 1 1;house 3 1;").is(2, "hanging");
            y.are(new long[] {0, 1}, "hung");
        });
    }

    private static Run taught(int teachers, String courses) {
        StringBuilder text = new StringBuilder("school signs 2 teachers " + teachers + ";");
        for (String course : courses.split(" ")) {
            text.append(course.contains("-") ? "ahead " + course.replace('-', ' ') + ";" : "course takes " + course + ";");
        }
        return Run.of(text.toString());
    }

    private static void courses() {
        edge(TERMS, "VI. COURSES: each takes a teacher's hours from some hour on without a break", () -> {
            // With a break two teachers would be done in five hours.
            taught(2, "3 3 3").is(6, "hours").are(new long[] {0, 0, 3}, "begins");
            taught(1, "9 9 9 9 9 9").is(54, "hours").is(45, "begins", 5);
            taught(3, "1 1 1 1").is(2, "hours").are(new long[] {0, 0, 0, 1}, "begins");
        });
        edge(TERMS, ", once all that are ahead of it are over", () -> {
            taught(3, "3 2 0-1").is(5, "hours").are(new long[] {0, 3}, "begins");
            taught(3, "3 5 1 0-2 1-2").is(6, "hours").are(new long[] {0, 0, 5}, "begins");
            taught(3, "9 9 9 9 9 9 0-1 1-2 2-3 3-4 4-5").is(54, "hours").is(45, "begins", 5);
        });
        edge(TERMS, "; hours till all are over, the fewest", () -> {
            // Both threes at once would leave no room for the twos.
            taught(2, "3 3 2 2 2").is(6, "hours");
            taught(2, "1 1 4").is(4, "hours");
            taught(1, "1").is(1, "hours");
        });
        edge(TERMS, "The first: COURSE by COURSE the least hour in which it can begin so that all is over so soon", () -> {
            // COURSE 1 has to wait for 2, which is ahead of the long one.
            taught(2, "4 4 1 7 2-3").is(8, "hours").are(new long[] {0, 4, 0, 1}, "begins");
            taught(2, "2 2 1 1 2 3-4").is(4, "hours").are(new long[] {0, 1, 3, 0, 2}, "begins");
            taught(2, "1 1 4").are(new long[] {0, 1, 0}, "begins");
        });
    }

    // ---- VII ----

    /** The draws from a seed, reckoned without any bound of a machine's numbers. */
    static int[] draws(long seed, int many) {
        BigInteger x = BigInteger.valueOf(seed);
        int[] found = new int[many];
        for (int i = 0; i < many; i++) {
            x = x.multiply(BigInteger.valueOf(1103515245)).add(BigInteger.valueOf(12345)).mod(BigInteger.valueOf(2147483648L));
            found[i] = x.divide(BigInteger.valueOf(65536)).mod(BigInteger.valueOf(100)).intValue();
        }
        return found;
    }

    /** The KNOCKS at which one slips who slips so often, as bits. */
    static int slipped(long seed, int knocks, int slips) {
        int found = 0;
        int[] draws = draws(seed, knocks);
        for (int knock = 0; knock < knocks; knock++) {
            found |= draws[knock] < slips ? 1 << knock : 0;
        }
        return found;
    }

    private static void storms() {
        long[] seeds = {0, 1, 2, 65535, 65536, 99999, 1103515245, 1999999999, 2000000000};
        edge(TERMS, "VII. DRAWS: x becomes (1103515245 x + 12345) modulo 2,147,483,648 (at first it is the seed)", () -> {
            for (long seed : seeds) {
                Run x = Run.of(WIDE + "door heart slips 50;");
                x.is(slipped(seed, 16, 50), "storm", seed, 0, 0);
            }
            // From seed 0 the first x is 12345, which draws 0; without that step it would draw 0 from seed 1 as well.
            Run.of(HEAD + "door heart slips 1;").is(1, "storm", 0, 0, 0).is(0, "storm", 1, 0, 0);
        });
        edge(TERMS, "; a draw: x / 65536, cut, modulo 100", () -> {
            // Seed 1 draws 38, 58, 13, 15 (16838, 5758, 10113, 17515).
            Run x = Run.of(HEAD + "door heart slips 0;");
            int[][] due = {{0, 0}, {13, 0}, {14, 4}, {15, 4}, {16, 12}, {38, 12}, {39, 13}, {50, 13}};
            for (int[] slips : due) {
                x.ask("train", 0, 1, slips[0]);
                x.is(slips[1], "storm", 1, 0, 0);
            }
        });
        edge(TERMS, "STORM: KNOCK by KNOCK (by numbers) a draw: if it is below slips, the DOOR does the other thing", () -> {
            for (long seed : seeds) {
                int[] draws = draws(seed, 16);
                for (int knock = 0; knock < 16; knock++) {
                    if (draws[knock] < 50) {
                        Run x = Run.of(WIDE + SHORTEST).is(0, "train", 0, 1, draws[knock]);
                        x.is(0xffff ^ slipped(seed, 16, draws[knock]), "storm", seed, 0, 0).is(draws[knock], "train", 0, 1, draws[knock] + 1);
                        x.is(0xffff ^ slipped(seed, 16, draws[knock] + 1), "storm", seed, 0, 0);
                    }
                }
            }
        });
        edge(TERMS, "(A twin: by its own slips.)", () -> {
            Run x = Run.of(HEAD + "door heart slips 50;door heart slips 0;door heart slips 39;lesson 0 0 open;twin 1 0;twin 2 0;");
            // Seed 1 draws 38, 58, 13, 15.
            x.is(12, "storm", 1, 0, 0).is(1, "storm", 1, 1, 0).is(12, "storm", 1, 2, 0).is(0, "storm", 1, 1, 2);
            x.is(39, "train", 2, 1, 38).is(13, "storm", 1, 2, 0).is(3, "storm", 1, 0, 2).is(2, "storm", 1, 2, 2);
        });
    }
}
