/** Promises 53 to 59, sentence by sentence. */
final class EdgesOfCourses extends Edges {
    private static final int MOST_SEED = 2000000000;
    private static final String NINES = "course takes 9;".repeat(6);

    private EdgesOfCourses() {
    }

    static void all() {
        hours();
        begins();
        teacher();
        train();
        owns();
        storm();
        years();
    }

    private static void hours() {
        edge(53, "COURSES (VI): hours", () -> {
            Run.of(FOUR).is(5, "hours").is(5, "hours");
            Run.of(HEAD).is(0, "hours");
            Run.of(HEAD + "course takes 1;").is(1, "hours");
            Run.of(HEAD + NINES).is(54, "hours");
            Run.of(HEAD.replace("teachers 1", "teachers 3") + NINES).is(18, "hours");
            Run.of(HEAD.replace("teachers 1", "teachers 2") + "course takes 3;course takes 3;"
                    + "course takes 2;".repeat(3)).is(6, "hours");
        });
        edge(53, "-2: there is no SCHOOL", () -> noSchool(-2, "hours"));
    }

    private static void begins() {
        edge(54, "The hour (from 0) in which a COURSE begins by the first", () -> {
            Run.of(FOUR).are(new long[] {0, 3, -2}, "begins").are(new long[] {0, 3, -2}, "begins");
            Run.of(HEAD + NINES).are(new long[] {0, 9, 18, 27, 36, 45, -2}, "begins");
            Run.of(HEAD.replace("teachers 1", "teachers 3") + NINES).are(new long[] {0, 0, 0, 9, 9, 9, -2}, "begins");
            // Of the two of four hours the second has to wait, for the sake of what COURSE 2 is ahead of.
            Run.of(HEAD.replace("teachers 1", "teachers 2") + "course takes 4;course takes 4;course takes 1;course takes 7;ahead 2 3;")
                    .are(new long[] {0, 4, 0, 1, -2}, "begins");
        });
        edge(54, "-2: there is none such", () -> {
            wrongAt(Run.of(FOUR), -2, "begins", 0, new long[] {0}, -1, 2, 5, 6, MIN, MAX);
            wrongAt(Run.of(HEAD + NINES), -2, "begins", 0, new long[] {0}, -1, 6, 7, MIN, MAX);
            Run.of(HEAD).is(-2, "begins", 0).is(-2, "begins", -1);
            noSchool(-2, "begins", 0);
        });
    }

    private static void teacher() {
        edge(55, "By how many hours it is over sooner with one teacher more", () -> {
            Run.of(FOUR).is(0, "teacher").is(2, "count", 1).is(5, "hours");
            Run.of(HEAD + NINES).is(27, "teacher").is(54, "hours").is(1, "count", 1);
            // A fourth one, though a SCHOOL has three at most.
            Run.of(HEAD.replace("teachers 1", "teachers 3") + "course takes 5;".repeat(4)).is(5, "teacher").is(10, "hours");
            Run.of(HEAD.replace("teachers 1", "teachers 3") + NINES).is(0, "teacher");
            Run.of(HEAD).is(0, "teacher");
            Run.of(HEAD + "course takes 9;").is(0, "teacher");
        });
        edge(55, "-2: there is no SCHOOL", () -> noSchool(-2, "teacher"));
    }

    private static void train() {
        edge(56, "A DOOR learns by a WAY (what 0)", () -> {
            Run x = Run.of(FOUR).is(0, "train", 0, 0, 2).is(2, "door", 0, 0).is(3, "deeds", 0).is(2, "train", 0, 0, 1).is(0, "deeds", 0);
            x.is(1, "train", 0, 0, 0).is(10, "deeds", 0).is(0, "train", 0, 0, 0).is(10, "door", 0, 1);
            // A twin goes on doing as whom it copies, which may be trained too.
            x.is(0, "train", 3, 0, 2).is(2, "door", 3, 0).is(10, "deeds", 3).is(1, "train", 1, 0, 0).is(2, "deeds", 3);
            x.is(1, "copy", 3, -1).is(15, "deeds", 3);
        });
        edge(56, ", slips so often (1: 0 .. 50) from now on: what it was", () -> {
            Run x = Run.of(FOUR).is(10, "train", 0, 1, 0).is(0, "door", 0, 1).is(0, "train", 0, 1, 50).is(50, "door", 0, 1);
            x.is(50, "train", 0, 1, 49).is(49, "train", 0, 1, 1).is(1, "train", 0, 1, 10).is(40, "train", 3, 1, 0).is(0, "door", 0, 0);
            // Seed 1 draws 38, 58, 13, 15.
            x.is(10, "storm", 1, 3, 0).is(0, "train", 3, 1, 50).is(7, "storm", 1, 3, 0).is(10, "deeds", 3);
        });
        edge(56, "-2: there are none such", () -> {
            noDoor(-2, "train", 0, 0);
            noDoor(-2, "train", 1, 0);
            wrongAt(Run.of(FOUR), -2, "train", 1, new long[] {0, 0, 0}, -1, 2, 3, MIN, MAX);
            wrongAt(Run.of(FOUR), -2, "train", 2, new long[] {0, 0, 0}, -1, 3, 10, 50, MIN, MAX);
            wrongAt(Run.of(FOUR), -2, "train", 2, new long[] {0, 1, 0}, -1, 51, 100, MIN, MAX);
        });
    }

    private static void owns() {
        edge(57, "The owner's RULE is M V from now on: what its DEEDS were", () -> {
            Run x = Run.of(FOUR).is(8, "owns", 2, 0).are(new long[] {2, 0, 2}, "house", -1).is(3, "owns", 0, 0).is(15, "owns", 3, 0);
            x.is(1, "owns", 3, 3).is(8, "owns", 3, 3).is(2, "fooled", 0, 0).is(1, "way", 1, 0);
            Run.of(HEAD).is(15, "owns", 3, 3).are(new long[] {3, 3, 1}, "house", -1);
            Run.of(WIDE).is(0xffff, "owns", 15, 15).is(0x8000, "owns", 0, 0).is(0xffff, "owns", 8, 0);
        });
        edge(57, "-2: there is none such", () -> {
            noKnock(-2, "owns", 0, 0, 0);
            wrongAt(Run.of(FOUR), -2, "owns", 1, new long[] {0, 0}, -1, 1, 2, 3, 4, MIN, MAX);
            wrongAt(Run.of(FOUR), -2, "owns", 1, new long[] {2, 0}, -1, 1, 3, 4, 6, MIN, MAX);
            wrongAt(Run.of(FOUR), -2, "owns", 1, new long[] {3, 0}, -1, 4, 7, MIN, MAX);
            Run.of(FOUR).is(-2, "owns", -1, -1).is(-2, "owns", 4, 4).is(-2, "owns", MAX, 3).is(8, "owns", 3, 3);
        });
        edge(57, ", no SCHOOL", () -> {
            noSchool(-2, "owns", 0, 0);
            new Run().is(-2, "owns", 0, 0).reads(1, HEAD).is(15, "owns", 0, 0);
        });
    }

    private static void storm() {
        edge(58, "STORM (VII) from a seed (0 .. 2,000,000,000): DEEDS of a DOOR in it (what 0)", () -> {
            for (long seed : new long[] {0, 1, 77, 1234567890, 1999999999, MOST_SEED}) {
                Run x = Run.of(WIDE + "door heart slips 50;door shortest slips 0;door shortest slips 25;");
                x.is(EdgesOfWords.slipped(seed, 16, 50), "storm", seed, 0, 0).is(0xffff, "storm", seed, 1, 0);
                x.is(0xffff ^ EdgesOfWords.slipped(seed, 16, 25), "storm", seed, 2, 0).are(new long[] {0, 0xffff, 0xffff}, "deeds");
            }
        });
        edge(58, ", marks (1)", () -> {
            // Seed 1 draws 38, 58, 13, 15: with 50 slips DOOR 0 does the other thing to 0, 2 and 3.
            Run x = Run.of(FOUR).is(10, "train", 0, 1, 50).is(7, "storm", 1, 0, 0).is(2, "storm", 1, 0, 1).is(3, "marks", 0);
            x.is(50, "train", 0, 1, 0).is(3, "storm", 1, 0, 1);
            Run.of(HEAD + "door heart slips 50;" + "exam 0 open;".repeat(12)).is(12, "storm", 1, 0, 1).is(0, "marks", 0);
            Run.of(HEAD + "door heart slips 38;" + "exam 0 open;".repeat(12)).is(0, "storm", 1, 0, 1);
            Run.of(HEAD + "door heart slips 50;").is(0, "storm", 1, 0, 1);
        });
        edge(58, ", how often it slips (2)", () -> {
            Run x = Run.of(FOUR).is(10, "train", 0, 1, 50).is(3, "storm", 1, 0, 2).is(50, "train", 0, 1, 15).is(1, "storm", 1, 0, 2);
            x.is(15, "train", 0, 1, 0).is(0, "storm", 1, 0, 2);
            int most = Integer.bitCount(EdgesOfWords.slipped(MOST_SEED, 16, 50));
            Run.of(WIDE + "door nearest slips 50;lesson 0 0 open;").is(most, "storm", MOST_SEED, 0, 2);
        });
        edge(58, "-2: there are none such", () -> {
            for (int what = 0; what < 3; what++) {
                wrongAt(Run.of(FOUR), -2, "storm", 0, new long[] {0, 0, what}, -1, MOST_SEED + 1, MIN, MAX);
                wrongAt(Run.of(FOUR), -2, "storm", 1, new long[] {0, 0, what}, -1, 4, MIN, MAX);
                wrongAt(Run.of(TWO), -2, "storm", 1, new long[] {0, 0, what}, 2, 3);
                new Run().is(-2, "storm", 0, 0, what);
            }
            wrongAt(Run.of(FOUR), -2, "storm", 2, new long[] {0, 0, 0}, -1, 3, 4, MIN, MAX);
            wrongAt(Run.of(FOUR), -2, "storm", 2, new long[] {MOST_SEED, 3, 0}, -1, 3, MIN, MAX);
        });
    }

    /** In how many of these years a DOOR that slips so often, and should open to KNOCK 0 alone, has the mark. */
    private static int years(long seed, int n, int slips) {
        int found = 0;
        for (int year = 0; year < n; year++) {
            found += EdgesOfWords.draws(seed + year, 1)[0] < slips ? 1 : 0;
        }
        return found;
    }

    private static void years() {
        String text = HEAD + "door heart slips 50;door heart slips 17;door heart slips 0;exam 0 open;";
        edge(59, "Of n (1 .. 20) such from seeds, the seed and 1, ..", () -> {
            for (long seed : new long[] {0, 1, 5, 1000000007, 1999999981, MOST_SEED}) {
                Run x = Run.of(text);
                for (int n : new int[] {1, 2, 3, 19, 20}) {
                    x.is(years(seed, n, 50), "years", seed, n, 0, 1).is(years(seed, n, 17), "years", seed, n, 1, 1);
                    x.is(0, "years", seed, n, 2, 1).is(n, "years", seed, n, 2, 0);
                }
            }
        });
        edge(59, ", in how many it has so many marks or more", () -> {
            // Seeds 0 and 1 draw 0 and 38 first: 17 slips go wrong in the first year alone.
            Run x = Run.of(text).is(1, "years", 0, 1, 1, 1).is(0, "years", 1, 1, 1, 1).is(1, "years", 0, 2, 1, 1).is(2, "years", 0, 2, 0, 1);
            x.is(2, "years", 0, 2, 1, 0).is(0, "years", 0, 2, 1, 2).is(20, "years", 0, 20, 1, 0).is(0, "years", 0, 20, 0, 2);
            x.is(20, "years", 0, 20, 1, MIN).is(20, "years", 0, 20, 1, -1).is(0, "years", 0, 20, 1, MAX);
            Run y = Run.of(HEAD + HEART + "exam 0 shut;".repeat(12)).is(20, "years", 0, 20, 0, 12).is(0, "years", 0, 20, 0, 13);
            y.is(20, "years", 0, 20, 0, 11);
        });
        edge(59, "-2: there are none such", () -> {
            wrongAt(Run.of(text), -2, "years", 0, new long[] {0, 1, 0, 0}, -1, MOST_SEED + 1, MIN, MAX);
            wrongAt(Run.of(text), -2, "years", 1, new long[] {0, 1, 0, 0}, -1, 0, 21, 22, MIN, MAX);
            wrongAt(Run.of(text), -2, "years", 1, new long[] {MOST_SEED, 1, 0, 0}, -1, 0, 21, MIN, MAX);
            wrongAt(Run.of(text), -2, "years", 2, new long[] {0, 1, 0, 0}, -1, 3, 4, MIN, MAX);
            new Run().is(-2, "years", 0, 1, 0, 0);
        });
    }
}
