/** Promises 60 to 65, sentence by sentence. */
final class EdgesOfState extends Edges {
    private EdgesOfState() {
    }

    static void all() {
        count();
        image();
        back();
        row();
        write();
        paste();
        pasteRefused();
    }

    private static void count() {
        edge(60, "0 signs, 1 teachers, 2 DOORS, 3 EXAMS, 4 HOUSES, 5 COURSES", () -> {
            new Run().are(new long[] {0, 0, 0, 0, 0, 0}, "count");
            Run.of(HEAD).are(new long[] {2, 1, 0, 0, 0, 0}, "count");
            Run.of(FOUR).are(new long[] {2, 2, 4, 4, 2, 2}, "count").is(0, "school").are(new long[] {0, 0, 0, 0, 0, 0}, "count");
            Run.of(WIDE.replace("teachers 1", "teachers 3") + HEART.repeat(4) + "exam 0 open;".repeat(12) + "house 0 0;".repeat(4)
                    + "course takes 9;".repeat(6)).are(new long[] {4, 3, 4, 12, 4, 6}, "count");
        });
        edge(60, ", 6 LESSONS that came by teach()", () -> {
            Run x = Run.of(FOUR).is(0, "count", 6).is(4, "teach", 0, 0, 0).is(2, "teach", 3, 0, 0).is(2, "count", 6);
            x.is(-2, "teach", 4, 0, 0).is(2, "count", 6).is(3, "unteach").is(1, "count", 6).is(0, "unteach").is(0, "count", 6);
            x.is(-5, "unteach").is(0, "count", 6).is(4, "teach", 0, 0, 0).reads(1, HEAD).is(0, "count", 6);
        });
        edge(60, ", 7 LINES, 8 bytes of the TAPE, 9 SLOTS that have a row", () -> {
            Run x = Run.of(FOUR).is(24, "count", 7).is(0, "count", 8).is(0, "count", 9).row(3).is(1, "count", 9).row(0, 1, 2);
            x.is(2, "count", 9).row(3, 1, 1).is(2, "count", 9).row(1).row(2).is(4, "count", 9).is(20, "feed", 0, 0, 0, 0, 0);
            x.is(20, "count", 8).is(13, "end", 13).is(13, "count", 8).is(24, "count", 7).is(-4, "school").is(0, "count", 8);
            x.is(24, "count", 7).is(4, "count", 9).is(0, "school").is(0, "count", 7).is(4, "count", 9);
        });
        edge(60, "NONE for others", () -> {
            for (Run x : new Run[] {new Run(), Run.of(FOUR)}) {
                x.is(-1, "count", 10).is(-1, "count", -1).is(-1, "count", 11).is(-1, "count", MIN).is(-1, "count", MAX);
            }
        });
    }

    private static void image() {
        edge(61, "IMAGE k (0 .. 2) keeps the SCHOOL, and what came by teach(): 0", () -> {
            // Three IMAGES of one SCHOOL, each with its own LESSONS, and none changes with the SCHOOL or with another one.
            Run x = Run.of(FOUR).is(0, "image", 0).is(4, "teach", 0, 0, 1).is(0, "image", 1).is(2, "teach", 3, 1, 1);
            x.is(0, "train", 0, 0, 2).is(10, "train", 0, 1, 5).is(1, "copy", 3, -1).is(8, "owns", 0, 0).is(0, "image", 2).mark();
            x.is(3, "unteach").is(0, "unteach").is(0, "school");
            x.is(0, "back", 1).is(1, "count", 6).are(new long[] {0, 10, 4, -1}, "door", 0).is(1, "door", 3, 3).is(11, "deeds", 0);
            x.is(0, "unteach").is(-5, "unteach").is(0, "back", 0).is(0, "count", 6).is(-5, "unteach").is(10, "deeds", 0);
            x.is(0, "back", 2).asMarked().is(3, "unteach").is(0, "unteach").is(-5, "unteach");
            // An IMAGE of none, and one made anew.
            Run y = new Run().is(0, "image", 2).reads(24, FOUR).is(0, "back", 2).is(-2, "best").is(0, "count", 7).reads(1, HEAD);
            y.is(0, "image", 2).reads(24, FOUR).is(0, "back", 2).is(1, "count", 7).is(-1, "best");
        });
        edge(61, "-2: no such k", () -> {
            wrongAt(Run.of(FOUR), -2, "image", 0, new long[] {0}, -1, 3, 4, MIN, MAX);
            new Run().is(-2, "image", 3).is(-2, "image", -1).is(-6, "back", 0).is(-6, "back", 2);
        });
    }

    private static void back() {
        edge(62, "It is as IMAGE k has it: 0", () -> {
            Run x = Run.of(FOUR).is(4, "teach", 0, 2, 1).mark().is(0, "image", 0).reads(2, WIDE + NEAREST).is(0, "image", 1);
            x.is(0, "back", 0).asMarked().is(0, "back", 0).asMarked().is(15, "does", 0, 0).is(0, "back", 1);
            x.is(2, "count", 7).is(0xffff, "does", 0, 0).is(-5, "unteach").is(81, "learnt", 0, 0xffff).is(0, "back", 0).asMarked();
            x.is(9, "learnt", 0, 15);
            // The TAPE, the FAULT and the SLOTS are none of the SCHOOL's.
            x.reads(-4, "school x").feed("owner").row(2, 1, 1).is(0, "back", 0).is(5, "count", 8).is(1, "fault", 0).is(7, "fault", 1);
            x.is(1, "count", 9).is(11, "same", 2).is(0, "unteach").is(0, "back", 0).is(4, "door", 0, 2);
        });
        edge(62, "-2: no such k", () -> {
            wrongAt(Run.of(FOUR).is(0, "image", 0).is(0, "image", 2), -2, "back", 0, new long[] {0}, -1, 3, 4, MIN, MAX);
            new Run().is(-2, "back", 3).is(-2, "back", -1);
        });
        edge(62, "; -6: it has nothing", () -> {
            Run x = Run.of(FOUR).is(0, "image", 1).is(4, "teach", 0, 2, 1).mark();
            x.is(-6, "back", 0).is(-6, "back", 2).asMarked().is(0, "back", 1).is(0, "count", 6);
            new Run().is(-6, "back", 0).is(-6, "back", 1).is(-6, "back", 2);
        });
    }

    private static void row() {
        edge(63, "A SLOT (0 .. 3) has a row of n numbers of a WIDTH, all 0 (in place of another one): 0", () -> {
            for (int slot = 0; slot < 4; slot++) {
                for (int width = 0; width < 4; width++) {
                    Run x = Run.of(WIDE + HEART).is(0, "row", slot, width, 0).is(-7, "write", slot, 0, 0).is(1, "same", slot);
                    x.is(0, "row", slot, width, 60).is(0, "write", slot, 59, 1).is(0, "same", slot).is(1, "count", 9);
                    // KNOCK 0 shut, thirty times: again all 0.
                    x.is(0, "row", slot, width, 60).is(1, "same", slot).is(0, "write", slot, 1, 1).is(0, "row", slot, width, 2);
                    x.is(-7, "write", slot, 2, 0).is(1, "same", slot).is(0, "write", slot, 1, 1).is(0, "same", slot);
                }
            }
            Run.of(HEAD + HEART).is(0, "row", 3, 3, 1).is(-2, "same", 3).is(0, "write", 3, 0, 0).is(-7, "write", 3, 1, 0);
        });
        edge(63, "-2: there is no such SLOT", () -> noSlot(-2, "row", 0, 0, 0, 2));
        edge(63, " or WIDTH (0 .. 3)", () -> {
            wrongAt(Run.of(FOUR).row(1, 1, 1), -2, "row", 1, new long[] {1, 0, 2}, -1, 4, 8, MIN, MAX);
            new Run().is(-2, "row", 0, 4, 0).is(0, "count", 9);
        });
        edge(63, ", or n is above 60", () -> {
            wrongAt(Run.of(FOUR).row(1, 1, 1), -2, "row", 2, new long[] {1, 0, 0}, 61, 62, 1000, MAX);
            new Run().is(-2, "row", 0, 0, 61).is(0, "count", 9).is(-6, "write", 0, 0, 0);
        });
        edge(63, "; -3, and the SLOT stays: n is below 0", () -> {
            wrongAt(Run.of(FOUR).row(1, 1, 1), -3, "row", 2, new long[] {1, 0, 0}, -1, -2, -60, MIN);
            new Run().is(-3, "row", 0, 0, -1).is(0, "count", 9).is(-6, "write", 0, 0, 0);
        });
    }

    private static void write() {
        edge(64, "Number i of the SLOT's row is v", () -> {
            Run x = Run.of(WIDE).is(0, "row", 0, 3, 60).is(0, "row", 3, 3, 2).is(0, "write", 3, 1, 1);
            for (int i = 0; i < 60; i++) {
                x.is(0, "write", 0, i, i % 16);
            }
            x.is(0, "write", 0, 0, 9).is(0, "write", 0, 59, 8);
            for (int i = 0; i < 60; i++) {
                is(x, 0, i, i == 0 ? 9 : i == 59 ? 8 : i % 16);
            }
        });
        edge(64, ", cut to its WIDTH: 0", () -> {
            for (int width = 0; width < 4; width++) {
                Run x = Run.of(WIDE).is(0, "row", 0, width, 1).is(0, "row", 3, width, 2).is(0, "write", 3, 1, 1);
                for (int bit = 4; bit < 64; bit++) {
                    x.is(0, "write", 0, 0, 5 + (1L << bit));
                    is(x, 0, 0, bit < 8 << width ? -1 : 5);
                }
                x.is(0, "write", 0, 0, Long.MAX_VALUE);
                is(x, 0, 0, -1);
                x.is(0, "write", 0, 0, Long.MIN_VALUE);
                is(x, 0, 0, width == 3 ? -1 : 0);
                x.is(0, "write", 0, 0, -1);
                is(x, 0, 0, -1);
            }
        });
        edge(64, "-2: there is no such SLOT", () -> noSlot(-2, "write", 0, 0, 0, 1));
        edge(64, "; -6: it has nothing", () -> {
            for (int slot = 0; slot < 4; slot++) {
                new Run().is(-6, "write", slot, 0, 1).is(-6, "write", slot, -1, 1).is(-6, "write", slot, 60, 1).is(0, "count", 9);
            }
        });
        edge(64, "; -7: there is no such number", () -> {
            wrongAt(Run.of(FOUR).row(0, 1, 1, 0, 0), -7, "write", 1, new long[] {0, 0, 1}, -1, 4, 5, 59, 60, MIN, MAX);
            wrongAt(Run.of(FOUR).is(0, "row", 0, 3, 60), -7, "write", 1, new long[] {0, 0, 1}, -1, 60, 61, MIN, MAX);
            wrongAt(Run.of(FOUR).row(0), -7, "write", 1, new long[] {0, 0, 1}, -1, 0, 1);
        });
    }

    /** Number i of a SLOT's row, looked at as a KNOCK of four signs; NONE: it is none. */
    private static void is(Run x, int slot, int i, int due) {
        x.is(0, "paste", slot, i, 3, 0, 1);
        x.is(due < 0 ? -2 : 1 << due, "sure", 3, 0);
    }

    /** WIDE, with a row of one byte each in SLOT 0, and SLOT 3 ready for is(). */
    private static Run rowOf(int... numbers) {
        Run x = Run.of(WIDE).is(0, "row", 3, 0, 2).is(0, "write", 3, 1, 1).is(0, "row", 0, 0, numbers.length);
        for (int i = 0; i < numbers.length; i++) {
            x.is(0, "write", 0, i, numbers[i]);
        }
        return x;
    }

    private static void are(Run x, int slot, int... due) {
        for (int i = 0; i < due.length; i++) {
            is(x, slot, i, due[i]);
        }
        x.is(-7, "write", slot, due.length, 0);
    }

    private static void paste() {
        edge(65, "So many numbers of a SLOT's row, from one on, are put to another one's", () -> {
            Run x = rowOf(1, 2, 3, 4, 5, 6).is(0, "row", 1, 0, 4).is(0, "paste", 0, 1, 1, 2, 2);
            are(x, 1, 0, 0, 2, 3);
            x.is(0, "paste", 0, 5, 1, 0, 1).is(0, "paste", 0, 0, 1, 3, 1);
            are(x, 1, 6, 0, 2, 1);
            x.is(0, "paste", 0, 2, 1, 0, 4);
            are(x, 1, 3, 4, 5, 6);
            are(x, 0, 1, 2, 3, 4, 5, 6);
            Run y = Run.of(FOUR).row(0, 1, 1).row(2, 3, 1).is(0, "paste", 0, 0, 2, 0, 2).is(11, "same", 2);
            y.is(0, "row", 0, 3, 60).is(0, "row", 1, 3, 60).is(0, "write", 0, 59, 1).is(0, "paste", 0, 0, 1, 0, 60).is(0, "same", 1);
        });
        edge(65, "(or its own), from one on, as they were: 0", () -> {
            Run x = rowOf(1, 2, 3, 4, 5, 6).is(0, "paste", 0, 0, 0, 2, 4);
            are(x, 0, 1, 2, 1, 2, 3, 4);
            Run y = rowOf(1, 2, 3, 4, 5, 6).is(0, "paste", 0, 2, 0, 0, 4);
            are(y, 0, 3, 4, 5, 6, 5, 6);
            Run z = rowOf(1, 2, 3, 4, 5, 6).is(0, "paste", 0, 0, 0, 1, 5).is(0, "paste", 0, 3, 0, 3, 3);
            are(z, 0, 1, 1, 2, 3, 4, 5);
        });
    }

    private static void pasteRefused() {
        edge(65, "-2: there is no such SLOT", () -> {
            noSlot(-2, "paste", 0, 0, 0, 0, 0, 0);
            noSlot(-2, "paste", 2, 0, 0, 0, 0, 0);
            Run.of(FOUR).row(0, 1, 1).is(-2, "paste", 0, 0, 4, 0, 1).is(-2, "paste", 4, 0, 0, 0, 1).is(-2, "paste", 1, 9, -1, 9, 9);
        });
        edge(65, "; -6: one has nothing", () -> {
            Run x = Run.of(FOUR).row(0, 1, 1).mark().is(-6, "paste", 0, 0, 1, 0, 1).is(-6, "paste", 1, 0, 0, 0, 1);
            x.is(-6, "paste", 2, 0, 3, 0, 0).is(-6, "paste", 2, 0, 2, 0, 0).is(-6, "paste", 0, 9, 1, 9, 9).asMarked();
            x.row(1).is(0, "paste", 0, 0, 1, 0, 0).is(-7, "paste", 0, 0, 1, 0, 1);
        });
        edge(65, "; -8: they are not of one WIDTH", () -> {
            for (int width = 0; width < 4; width++) {
                for (int other = 0; other < 4; other++) {
                    Run x = Run.of(FOUR).is(0, "row", 0, width, 2).is(0, "row", 1, other, 2).is(0, "write", 0, 1, 1);
                    x.is(width == other ? 0 : -8, "paste", 0, 0, 1, 0, 2).is(width == other ? 0 : 15, "same", 1);
                    x.is(width == other ? -7 : -8, "paste", 0, 0, 1, 0, 99).is(width == other ? 0 : -8, "paste", 0, 0, 1, 0, 0);
                }
            }
        });
        edge(65, "; -7, and nothing happens: some are beyond their rows", () -> {
            Run x = rowOf(1, 2, 3, 4, 5, 6).is(0, "row", 1, 0, 4).is(-7, "paste", 0, 0, 1, 0, 5).is(-7, "paste", 0, 5, 1, 0, 2);
            x.is(-7, "paste", 0, 6, 1, 0, 1).is(-7, "paste", 0, 0, 1, 4, 1).is(-7, "paste", 0, 0, 1, 3, 2).is(-7, "paste", 0, 0, 0, 1, 6);
            x.is(-7, "paste", 0, 1, 0, 0, 6).is(-7, "paste", 0, 0, 0, 0, 7).is(-7, "paste", 0, 1, 1, 0, MAX).is(-7, "paste", 0, 0, 1, 1, MAX);
            x.is(-7, "paste", 0, MAX, 1, 0, 1).is(-7, "paste", 0, 0, 1, MAX, 1).is(-7, "paste", 0, MAX, 1, MAX, MAX);
            are(x, 0, 1, 2, 3, 4, 5, 6);
            are(x, 1, 0, 0, 0, 0);
        });
        edge(65, "(also where n is 0: a place above how many it has)", () -> {
            Run x = rowOf(1, 2, 3).is(0, "row", 1, 0, 4).is(0, "paste", 0, 3, 1, 4, 0).is(0, "paste", 0, 0, 1, 0, 0);
            x.is(-7, "paste", 0, 4, 1, 0, 0).is(-7, "paste", 0, 0, 1, 5, 0).is(-7, "paste", 0, MAX, 1, 0, 0).is(-7, "paste", 0, 0, 1, MAX, 0);
            x.is(0, "row", 1, 0, 0).is(0, "paste", 0, 0, 1, 0, 0).is(-7, "paste", 0, 0, 1, 1, 0).is(-7, "paste", 1, 1, 1, 0, 0);
            are(x, 0, 1, 2, 3);
        });
        edge(65, ", or a place or n is below 0", () -> {
            Run x = rowOf(1, 2, 3).is(0, "row", 1, 0, 4);
            for (int low : new int[] {-1, -2, MIN}) {
                x.is(-7, "paste", 0, low, 1, 0, 1).is(-7, "paste", 0, 0, 1, low, 1).is(-7, "paste", 0, 0, 1, 0, low);
                x.is(-7, "paste", 0, low, 1, 0, 0).is(-7, "paste", 0, 0, 1, low, 0).is(-7, "paste", 0, low, 1, low, low);
                x.is(-7, "paste", 0, 1, 1, 1, low).is(-7, "paste", 0, low, 0, 0, MAX);
            }
            are(x, 0, 1, 2, 3);
            are(x, 1, 0, 0, 0, 0);
        });
    }
}
