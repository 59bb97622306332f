/** The boundary cases that the document names ahead of its promises: its limits, its refusals and its terms. */
public final class EdgesOfTermsTest extends Edges {
    public static void main(String[] args) {
        calls();
        refusals();
        sizesOfCodes();
        columns();
        syndromes();
        bank();
        cells();
        marks();
        swapDue();
        swapDone();
        retiringDue();
        retiringDone();
        scrubber();
        patterns();
        walks();
        end();
    }

    private static void calls() {
        String words = "An object is used for at most 512 calls after it has been made";
        edge("What it is", words, "the 512th call counts the marks of all reads", () -> {
            MendedBank x = coded(4, 4);
            x.stick(0, 0, 0, 1);
            for (int i = 0; i < 509; i++) {
                x.read(0, 0);
            }
            due("marks", x.marks(0, 0, 0), 509);
        });
        edge("What it is", words, "the 512th call counts the looks of all scrubs", () -> {
            MendedBank x = coded(14, 6);
            for (int i = 0; i < 510; i++) {
                x.scrub(64);
            }
            due("many(0)", x.many(0), 510 * 64);
        });
        edge("What it is", words, "each call may be a new code", () -> {
            MendedBank x = new MendedBank();
            for (int i = 0; i < 511; i++) {
                int c = 4 + i % 3;
                due("code", x.code(most(c), c), most(c) + c);
            }
            due("code, the 512th", x.code(1, 4), 5);
        });
    }

    private static void refusals() {
        String order = "REFUSALS, in the order in which a call's line tells them";
        edge("Terms", order, "write: UNKNOWN ahead of OUTSIDE", () -> {
            MendedBank x = coded(4, 4);
            due("a wrong PAGE", x.write(4, 0, 16), UNKNOWN);
            due("a wrong WORD", x.write(0, 4, 16), UNKNOWN);
        });
        edge("Terms", order, "flip: UNKNOWN ahead of OUTSIDE", () -> {
            MendedBank x = coded(4, 4);
            due("a wrong PAGE", x.flip(4, 0, 256), UNKNOWN);
            due("a wrong WORD", x.flip(0, 4, 256), UNKNOWN);
        });
        edge("Terms", order, "stick: UNKNOWN ahead of OUTSIDE", () -> {
            MendedBank x = coded(4, 4);
            due("a wrong PAGE", x.stick(4, 0, 0, 3), UNKNOWN);
            due("a wrong WORD", x.stick(0, 4, 0, 3), UNKNOWN);
            due("a wrong BIT", x.stick(0, 0, 8, 3), UNKNOWN);
        });
        edge("Terms", order, "fate: UNKNOWN ahead of OUTSIDE", () -> {
            MendedBank x = coded(4, 4);
            due("a wrong PAGE", x.fate(4, 0, 256), UNKNOWN);
            due("a wrong WORD", x.fate(0, 4, 256), UNKNOWN);
        });
        edge("Terms", order, "word: STATE ahead of OUTSIDE", () ->
            dueEach("word", new MendedBank()::word, STATE, -1, 1, 16, MOST, LEAST));
        edge("Terms", order, "syndrome: STATE ahead of OUTSIDE", () ->
            dueEach("syndrome", new MendedBank()::syndrome, STATE, -1, 1, 256, MOST, LEAST));
        edge("Terms", order, "mended: STATE ahead of OUTSIDE", () ->
            dueEach("mended", new MendedBank()::mended, STATE, -1, 1, 256, MOST, LEAST));
        edge("Terms", order, "scrub: OUTSIDE ahead of STATE", () ->
            dueEach("scrub", new MendedBank()::scrub, OUTSIDE, -1, 65, MOST, LEAST));
        edge("Terms", order, "patterns: OUTSIDE ahead of STATE", () -> {
            MendedBank x = new MendedBank();
            dueEach("n", n -> x.patterns(n, 0), OUTSIDE, -1, 5, MOST, LEAST);
            dueEach("what", what -> x.patterns(0, what), OUTSIDE, -1, 5, MOST, LEAST);
        });
        edge("Terms", "they change nothing", "the bank that the tests of this use is worn", () -> {
            MendedBank x = worn();
            due("place(2)", x.place(2), 5);
            due("frame(3)", x.frame(3), 4);
            due("stuck cells", x.many(5), 2);
            due("looks", x.many(0), 6 + 8 + 7);
            due("next PAGE", x.many(8), 1);
            due("next WORD", x.many(9), 3);
        });
        edge("Terms", "LOST is answered for refusals, where a long is.", "LOST is the least long", () ->
            due("LOST", new MendedBank().safe(13, 1, 0), LOST));
        String sets = "Sets of BITS are told as bits (bit k for BIT k).";
        edge("Terms", sets, "the lowest and the highest BIT of the widest WORD", () -> {
            MendedBank x = coded(14, 6);
            due("flip", x.flip(0, 0, 1 | 1 << 19), 2);
            due("raw", x.raw(0, 0), 1 | 1 << 19);
            due("syndrome", x.syndrome(1 << 19), 32);
        });
        edge("Terms", sets, "all BITS of the narrowest WORD", () -> {
            MendedBank x = coded(1, 4);
            due("flip", x.flip(0, 0, 31), 5);
            due("raw", x.raw(0, 0), 31);
        });
    }

    private static void sizesOfCodes() {
        String words = "(c 4 .. 6; d 1 .. 4, 1 .. 11, 1 .. 14 for c 4, 5, 6)";
        edge("Terms 1", words, "c too small", () ->
            dueEach("code(1, c)", c -> new MendedBank().code(1, c), OUTSIDE, 3, 2, 1, 0, -1, LEAST));
        edge("Terms 1", words, "c too large", () ->
            dueEach("code(1, c)", c -> new MendedBank().code(1, c), OUTSIDE, tooLarge(7)));
        edge("Terms 1", words, "d too small", () -> {
            for (int c = 4; c <= 6; c++) {
                int checks = c;
                dueEach("code(d, " + c + ")", d -> new MendedBank().code(d, checks), OUTSIDE, 0, -1, LEAST);
            }
        });
        edge("Terms 1", words, "d the least", () -> {
            for (int c = 4; c <= 6; c++) {
                due("code(1, " + c + ")", new MendedBank().code(1, c), 1 + c);
            }
        });
        edge("Terms 1", words, "d the most for c 4, and one more", () -> {
            due("code(4, 4)", new MendedBank().code(4, 4), 8);
            dueEach("code(d, 4)", d -> new MendedBank().code(d, 4), OUTSIDE, tooLarge(5));
        });
        edge("Terms 1", words, "d the most for c 5, and one more", () -> {
            due("code(11, 5)", new MendedBank().code(11, 5), 16);
            dueEach("code(d, 5)", d -> new MendedBank().code(d, 5), OUTSIDE, tooLarge(12));
        });
        edge("Terms 1", words, "d the most for c 6, and one more", () -> {
            due("code(14, 6)", new MendedBank().code(14, 6), 20);
            dueEach("code(d, 6)", d -> new MendedBank().code(d, 6), OUTSIDE, tooLarge(15));
        });
    }

    private static void columns() {
        edge("Terms 1", "Each BIT has a COLUMN, a number below 2 to the power of c.", "all BITS of all CODES", () -> {
            for (int c = 4; c <= 6; c++) {
                for (int d = 1; d <= most(c); d++) {
                    MendedBank x = coded(d, c);
                    for (int b = 0; b < d + c; b++) {
                        int column = x.column(b);
                        due("column within its bounds", column > 0 && column < 1 << c ? 1 : 0, 1);
                    }
                }
            }
        });
        String checks = "That of check BIT d + i is 2 to the power of i.";
        edge("Terms 1", checks, "the first check BIT", () -> {
            for (int c = 4; c <= 6; c++) {
                due("behind one data BIT", coded(1, c).column(1), 1);
                due("behind the most", coded(most(c), c).column(most(c)), 1);
            }
        });
        edge("Terms 1", checks, "the last check BIT", () -> {
            for (int c = 4; c <= 6; c++) {
                due("behind one data BIT", coded(1, c).column(c), 1 << (c - 1));
                due("behind the most", coded(most(c), c).column(most(c) + c - 1), 1 << (c - 1));
            }
        });
        String fewest = "of all numbers with 3 or 5 ones that were not chosen yet those with the fewest ones";
        edge("Terms 1", fewest, "the first data BIT, none chosen yet", () -> {
            for (int c = 4; c <= 6; c++) {
                due("column(0)", coded(1, c).column(0), 7);
            }
        });
        edge("Terms 1", fewest, "the last number with 3 ones, and 5 ones when there is no more of them", () -> {
            MendedBank x = coded(11, 5);
            due("column(9)", x.column(9), 25);
            due("column(10)", x.column(10), 31);
        });
        edge("Terms 1", fewest, "all numbers of c 4 chosen", () -> {
            MendedBank x = coded(4, 4);
            due("all of them", 1L << x.column(0) | 1L << x.column(1) | 1L << x.column(2) | 1L << x.column(3),
                1 << 7 | 1 << 11 | 1 << 13 | 1 << 14);
        });
        edge("Terms 1", fewest, "no number with 5 ones while one with 3 is left", () -> {
            MendedBank x = coded(14, 6);
            for (int b = 0; b < 14; b++) {
                due("ones of column(" + b + ")", Integer.bitCount(x.column(b)), 3);
            }
        });
        String fullest = "of these those by which, with all chosen so far, the FULLEST row has the fewest ones";
        edge("Terms 1", fullest, "a greater number whose rows are emptier", () -> {
            due("not 11", coded(2, 6).column(1), 56);
            due("not 13", coded(3, 5).column(2), 28);
        });
        edge("Terms 1", fullest, "any next number makes the FULLEST row fuller", () -> {
            // Behind 7 no three of five rows are all empty; behind 7 and 56 no row is.
            due("c 5", coded(2, 5).column(1), 11);
            due("c 6", coded(3, 6).column(2), 11);
        });
        edge("Terms 1", "of these the least", "all alike", () -> {
            MendedBank x = coded(4, 4);
            int[] wants = {7, 11, 13, 14};
            for (int b = 0; b < 4; b++) {
                due("column(" + b + ")", x.column(b), wants[b]);
            }
        });
        edge("Terms 1", "only data BITS' COLUMNS are counted", "rows that only check BITS have ones in", () -> {
            MendedBank x = coded(1, 6);
            dueEach("ones", x::ones, 1, 0, 1, 2);
            dueEach("ones", x::ones, 0, 3, 4, 5);
        });
    }

    private static void syndromes() {
        String words = "SYNDROME of a set of BITS: the COLUMNS of all of them, taken together by exclusive or.";
        edge("Terms 1", words, "the empty set", () -> {
            due("syndrome(0)", coded(4, 4).syndrome(0), 0);
            due("syndrome(0)", coded(14, 6).syndrome(0), 0);
        });
        edge("Terms 1", words, "the full set", () -> {
            due("of 8 BITS", coded(4, 4).syndrome(255), 0);
            due("of 5 BITS", coded(1, 4).syndrome(31), 7 ^ 15);
            // Each row of this code has seven ones of data BITS and one of a check BIT.
            due("of 20 BITS", coded(14, 6).syndrome((1 << 20) - 1), 0);
        });
        edge("Terms 1", words, "one BIT alone", () -> {
            MendedBank x = coded(11, 5);
            for (int b = 0; b < 16; b++) {
                due("BIT " + b, x.syndrome(1 << b), x.column(b));
            }
        });
        String kept = "A WORD of a value (data BITS) has the check BITS with which its SYNDROME is 0.";
        edge("Terms 1", kept, "the value 0", () -> due("word(0)", coded(14, 6).word(0), 0));
        edge("Terms 1", kept, "the greatest value", () -> {
            due("of 1 data BIT", coded(1, 6).word(1), 1 | 7 << 1);
            due("of 4", coded(4, 4).word(15), 255);
            due("of 14", coded(14, 6).word((1 << 14) - 1), (1 << 20) - 1);
        });
        edge("Terms 1", kept, "all values", () -> {
            MendedBank x = coded(7, 5);
            for (int v = 0; v < 128; v++) {
                due("the value", x.word(v) & 127, v);
                due("the syndrome", x.syndrome(x.word(v)), 0);
            }
        });
        edge("Terms 1", "A set of BITS is CLEAN, if its SYNDROME is 0", "the empty and the full set", () -> {
            MendedBank x = coded(4, 4);
            due("mended(0)", x.mended(0), 0);
            due("mended(255)", x.mended(255), 255);
        });
        String mended = "else MENDED, if the SYNDROME is the COLUMN of a BIT: with that BIT the other way";
        edge("Terms 1", mended, "the first data BIT and the last check BIT", () -> {
            MendedBank x = coded(14, 6);
            due("BIT 0 from 1", x.mended(1), 0);
            due("BIT 0 from 0", x.mended(x.word(1) - 1), x.word(1));
            due("BIT 19 from 1", x.mended(1 << 19), 0);
            due("BIT 19 from 0", x.mended(((1 << 20) - 1) ^ 1 << 19), (1 << 20) - 1);
        });
        edge("Terms 1", "else it is FOUND", "an even number of ones in the SYNDROME", () -> {
            MendedBank x = coded(4, 4);
            due("two BITS", x.mended(3), FOUND);
            due("all check BITS", x.mended(240), FOUND);
        });
        edge("Terms 1", "else it is FOUND", "an odd number of ones, but no BIT's COLUMN", () -> {
            due("three ones", coded(1, 6).mended(112), FOUND);
            due("five ones", coded(1, 6).mended(126 ^ 2), FOUND);
            due("five ones, the widest WORD", coded(14, 6).mended(31 << 14), FOUND);
            due("a number that is chosen for the next BIT", coded(3, 4).mended(14 << 3), FOUND);
        });
    }

    private static void bank() {
        String words = "PAGES 0 .. 3, each of WORDS 0 .. 3.";
        edge("Terms 2", words, "the first and the last PAGE and WORD", () -> {
            MendedBank x = coded(4, 4);
            due("raw(0, 0)", x.raw(0, 0), 0);
            due("raw(0, 3)", x.raw(0, 3), 0);
            due("raw(3, 0)", x.raw(3, 0), 0);
            due("raw(3, 3)", x.raw(3, 3), 0);
        });
        edge("Terms 2", words, "no WORD is another's neighbour", () -> {
            MendedBank x = coded(4, 4);
            for (int i = 0; i < 16; i++) {
                x.write(i / 4, i % 4, i);
            }
            for (int i = 0; i < 16; i++) {
                due("read", x.read(i / 4, i % 4), i);
            }
        });
        edge("Terms 2", words, "no PAGE 4 or WORD 4, though there is a FRAME 4", () -> {
            MendedBank x = coded(4, 4);
            due("raw(4, 0)", x.raw(4, 0), UNKNOWN);
            due("raw(0, 4)", x.raw(0, 4), UNKNOWN);
        });
        edge("Terms 2", "PAGE p is in FRAME p at first; FRAMES 4, 5 are spare.", "all PAGES", () -> {
            MendedBank x = coded(4, 4);
            for (int p = 0; p < 4; p++) {
                due("frame(" + p + ")", x.frame(p), p);
            }
            due("spare FRAMES", x.many(7), 2);
        });
        String places = "BIT b is in PLACE b at first; PLACE d + c is spare.";
        edge("Terms 2", places, "all BITS", () -> {
            MendedBank x = coded(14, 6);
            for (int b = 0; b < 20; b++) {
                due("place(" + b + ")", x.place(b), b);
            }
        });
        edge("Terms 2", places, "the spare PLACE is not in use, and is the last one", () -> {
            for (int c = 4; c <= 6; c++) {
                MendedBank x = coded(most(c), c);
                due("in use", x.many(6), 0);
                due("the spare PLACE", x.marks(0, 0, most(c) + c), 0);
                due("behind it", x.marks(0, 0, most(c) + c + 1), UNKNOWN);
            }
        });
    }

    private static void cells() {
        String words = "There is a CELL for each FRAME, WORD and PLACE, spare ones too: it has 0 or 1 (0 at first)";
        edge("Terms 2", words, "all CELLS of all PAGES have 0", () -> {
            MendedBank x = coded(14, 6);
            for (int i = 0; i < 16; i++) {
                due("raw", x.raw(i / 4, i % 4), 0);
            }
        });
        edge("Terms 2", words, "CELLS of spare FRAMES and of the spare PLACE", () -> {
            MendedBank x = coded(4, 4);
            due("FRAME 4", x.marks(4, 0, 0), 0);
            due("FRAME 5, the spare PLACE", x.marks(5, 3, 8), 0);
            due("FRAME 0, the spare PLACE", x.marks(0, 0, 8), 0);
        });
        String stuck = "may be STUCK: then it stays as it is";
        edge("Terms 2", stuck, "at 0, whatever is put or flipped", () -> {
            MendedBank x = coded(4, 4);
            x.stick(0, 0, 0, 0);
            x.flip(0, 0, 1);
            due("behind flip", x.raw(0, 0), 0);
            x.write(0, 0, 15);
            due("behind write", x.raw(0, 0), 254);
            x.scrub(1);
            due("behind scrub", x.raw(0, 0), 254);
        });
        edge("Terms 2", stuck, "at 1, whatever is put or flipped", () -> {
            MendedBank x = coded(4, 4);
            x.stick(0, 0, 7, 1);
            x.flip(0, 0, 128);
            due("behind flip", x.raw(0, 0), 128);
            x.write(0, 0, 0);
            due("behind write", x.raw(0, 0), 128);
            x.scrub(1);
            due("behind scrub", x.raw(0, 0), 128);
        });
        String put = "Whatever is put into a WORD goes BIT by BIT to the CELLS in which they are now, "
            + "but for those that are STUCK.";
        edge("Terms 2", put, "all CELLS STUCK", () -> {
            MendedBank x = coded(1, 4);
            for (int b = 0; b < 5; b++) {
                x.stick(2, 2, b, 0);
            }
            due("write", x.write(2, 2, 1), 1);
            due("raw", x.raw(2, 2), 0);
            due("another WORD", x.write(2, 3, 1), 1);
            due("raw", x.raw(2, 3), 15);
        });
        edge("Terms 2", put, "all CELLS but one STUCK", () -> {
            MendedBank x = coded(1, 4);
            for (int b = 0; b < 4; b++) {
                x.stick(2, 2, b, 0);
            }
            x.flip(2, 2, 16);
            x.write(2, 2, 0);
            due("raw", x.raw(2, 2), 0);
        });
        edge("Terms 2", put, "a BIT that is in the spare PLACE now", () -> {
            MendedBank x = swapped();
            x.write(3, 3, 15);
            due("raw", x.raw(3, 3), 255);
            due("read", x.read(3, 3), 15);
            x.write(3, 3, 0);
            due("raw", x.raw(3, 3), 0);
        });
        edge("Terms 2", put, "a PAGE that is in a spare FRAME now", () -> {
            MendedBank x = retired();
            x.write(0, 3, 15);
            due("raw", x.raw(0, 3), 255);
            due("another PAGE", x.raw(1, 3), 0);
        });
    }

    /** BIT 0 of code(4, 4) swapped by its cells in PAGES 0, 1, 2. */
    private static MendedBank swapped() {
        MendedBank x = coded(4, 4);
        for (int p = 0; p < 3; p++) {
            wear(x, p, 0, 0, 2);
        }
        due("swapped", x.place(0), 8);
        return x;
    }

    /** PAGE 0 of code(4, 4) moved to FRAME 4 by BITS 4 .. 7 of its WORD 0. */
    private static MendedBank retired() {
        MendedBank x = coded(4, 4);
        for (int b = 4; b < 8; b++) {
            wear(x, 0, 0, b, 2);
        }
        due("retired", x.frame(0), 4);
        return x;
    }

    private static void marks() {
        String words = "CELLS have MARKS (0 at first); a CELL with two or more is BAD.";
        edge("Terms 2", words, "none at first", () -> due("all marks", allMarks(coded(4, 4), 9), 0));
        edge("Terms 2", words, "one MARK is not BAD, two are, three are still one BAD CELL", () -> {
            MendedBank x = coded(4, 4);
            x.flip(0, 0, 1);
            int[] wants = {0, 1, 1, 1};
            for (int i = 0; i < 4; i++) {
                x.read(0, 0);
                due("marks", x.marks(0, 0, 0), i + 1);
                due("BAD CELLS", x.many(4), wants[i]);
            }
        });
        String look = "A LOOK at a WORD takes its BITS as its CELLS have them: CLEAN, MENDED or FOUND.";
        edge("Terms 2", look, "a CLEAN one leaves no MARK", () -> {
            MendedBank x = coded(4, 4);
            x.read(0, 0);
            x.flip(1, 0, 255);
            x.read(1, 0);
            due("CLEAN", x.look(0), 0);
            due("all marks", allMarks(x, 9), 0);
        });
        edge("Terms 2", look, "a FOUND one leaves no MARK", () -> {
            MendedBank x = coded(4, 4);
            x.flip(0, 0, 3);
            x.read(0, 0);
            due("FOUND", x.look(0), 2);
            due("all marks", allMarks(x, 9), 0);
        });
        edge("Terms 2", "With MENDED the CELL of the BIT that was wrong gets a MARK more", "that CELL alone", () -> {
            MendedBank x = coded(4, 4);
            x.flip(3, 3, 128);
            x.read(3, 3);
            due("its marks", x.marks(3, 3, 7), 1);
            due("all marks", allMarks(x, 9), 1);
        });
        edge("Terms 2", "With MENDED the CELL of the BIT that was wrong gets a MARK more",
            "three flips: the BIT that seems wrong", () -> {
                MendedBank x = coded(4, 4);
                x.flip(0, 0, 7);
                x.read(0, 0);
                due("the BIT", x.look(1), 4);
                due("its marks", x.marks(0, 0, 4), 1);
                due("all marks", allMarks(x, 9), 1);
            });
        edge("Terms 2", "With MENDED the CELL of the BIT that was wrong gets a MARK more",
            "in the spare PLACE and a spare FRAME, where they are now", () -> {
                MendedBank x = swapped();
                wear(x, 3, 1, 0, 1);
                due("the new CELL", x.marks(3, 1, 8), 1);
                due("the old CELL", x.marks(3, 1, 0), 0);
                MendedBank y = retired();
                wear(y, 0, 0, 4, 1);
                due("the new CELL", y.marks(4, 0, 4), 1);
                due("the old CELL", y.marks(0, 0, 4), 2);
            });
    }

    private static void swapDue() {
        String three = "BAD CELLS of the PLACE are in three WORDS or more (of all FRAMES)";
        edge("Terms 2", three, "two WORDS are too few", () -> {
            MendedBank x = coded(4, 4);
            wear(x, 0, 0, 0, 2);
            wear(x, 1, 0, 0, 2);
            due("place", x.place(0), 0);
            due("in use", x.many(6), 0);
        });
        edge("Terms 2", three, "two WORDS and one MARK of a third are too few", () -> {
            MendedBank x = coded(4, 4);
            wear(x, 0, 0, 0, 2);
            wear(x, 1, 0, 0, 2);
            wear(x, 2, 0, 0, 1);
            due("place", x.place(0), 0);
            due("in use", x.many(6), 0);
        });
        edge("Terms 2", three, "the second MARK of a third WORD is enough", () -> {
            MendedBank x = coded(4, 4);
            wear(x, 0, 0, 0, 2);
            wear(x, 1, 0, 0, 2);
            wear(x, 2, 0, 0, 2);
            due("look(2)", x.look(2), 1);
            due("place", x.place(0), 8);
        });
        edge("Terms 2", three, "one CELL with many MARKS is in one WORD", () -> {
            MendedBank x = coded(4, 4);
            wear(x, 0, 0, 0, 20);
            wear(x, 0, 1, 0, 20);
            due("place", x.place(0), 0);
        });
        edge("Terms 2", three, "three WORDS of one FRAME", () -> {
            MendedBank x = coded(4, 4);
            for (int w = 1; w < 4; w++) {
                due("place", x.place(7), 7);
                wear(x, 3, w, 7, 2);
            }
            due("place", x.place(7), 8);
        });
        edge("Terms 2", three, "the same WORD of three FRAMES", () -> {
            MendedBank x = coded(4, 4);
            for (int p = 1; p < 4; p++) {
                due("place", x.place(7), 7);
                wear(x, p, 3, 7, 2);
            }
            due("place", x.place(7), 8);
        });
        edge("Terms 2", three, "BAD CELLS of three PLACES are not those of one", () -> {
            MendedBank x = coded(4, 4);
            wear(x, 0, 0, 0, 2);
            wear(x, 1, 1, 1, 2);
            wear(x, 2, 2, 2, 2);
            due("in use", x.many(6), 0);
        });
        edge("Terms 2", three, "a FRAME that was retired counts", () -> {
            MendedBank x = coded(4, 4);
            wear(x, 0, 0, 0, 2);
            wear(x, 0, 1, 0, 2);
            wear(x, 0, 2, 1, 2);
            wear(x, 0, 3, 1, 2);
            due("frame", x.frame(0), 4);
            wear(x, 2, 0, 0, 2);
            due("place", x.place(0), 8);
        });
        edge("Terms 2", three, "a FRAME that was spare counts", () -> {
            MendedBank x = retired();
            for (int w = 0; w < 3; w++) {
                wear(x, 0, w, 0, 2);
            }
            due("place", x.place(0), 8);
        });
        edge("Terms 2", "if the PLACE of that CELL is not the spare one", "the spare one wears out too", () -> {
            MendedBank x = swapped();
            for (int p = 0; p < 4; p++) {
                wear(x, p, 1, 0, 2);
                due("look(1)", x.look(1), 0);
                due("look(2)", x.look(2), 0);
            }
            due("BAD CELLS", x.many(4), 4);
            due("place", x.place(0), 8);
        });
        edge("Terms 2", "the spare one is not in use", "a second PLACE wears out", () -> {
            MendedBank x = swapped();
            for (int p = 0; p < 4; p++) {
                wear(x, p, 1, 5, 2);
                due("look(1)", x.look(1), 5);
                due("look(2)", x.look(2), 0);
            }
            due("BAD CELLS", x.many(4), 4);
            due("place", x.place(5), 5);
            due("place", x.place(0), 8);
        });
    }

    /** One MARK on BITS 1 .. 3 of each WORD. */
    private static MendedBank marked() {
        MendedBank x = coded(4, 4);
        for (int i = 0; i < 16; i++) {
            for (int b = 1; b < 4; b++) {
                wear(x, i / 4, i % 4, b, 1);
            }
        }
        return x;
    }

    private static void dueMarked(MendedBank x) {
        for (int i = 0; i < 16; i++) {
            for (int b = 1; b < 4; b++) {
                due("marks(" + i / 4 + ", " + i % 4 + ", " + b + ")", x.marks(i / 4, i % 4, b), 1);
            }
        }
    }

    private static void swapDone() {
        String words = "each CELL of the spare PLACE, in all FRAMES, becomes what the CELL of the PLACE has "
            + "(MARKS 0, not STUCK); the BIT is in the spare PLACE from now on";
        edge("Terms 2", words, "all WORDS, CELLS with 0 and with 1", () -> {
            for (int turn = 0; turn <= 15; turn += 15) {
                MendedBank x = coded(4, 4);
                for (int i = 0; i < 16; i++) {
                    x.write(i / 4, i % 4, i ^ turn);
                }
                for (int p = 0; p < 3; p++) {
                    wear(x, p, 0, 0, 2);
                }
                due("place", x.place(0), 8);
                for (int i = 0; i < 16; i++) {
                    due("raw", x.raw(i / 4, i % 4), x.word(i ^ turn));
                }
            }
        });
        edge("Terms 2", words, "a PAGE in a spare FRAME", () -> {
            MendedBank x = retired();
            x.write(0, 2, 15);
            for (int p = 1; p < 4; p++) {
                wear(x, p, 0, 0, 2);
            }
            due("place", x.place(0), 8);
            due("raw", x.raw(0, 2), 255);
            due("raw", x.raw(0, 3), 0);
        });
        edge("Terms 2", words, "the wrong CELL itself is taken as it is", () -> {
            MendedBank x = coded(4, 4);
            wear(x, 0, 0, 0, 2);
            wear(x, 1, 0, 0, 2);
            x.flip(2, 0, 1);
            x.read(2, 0);
            x.read(2, 0);
            due("look(2)", x.look(2), 1);
            due("raw", x.raw(2, 0), 1);
        });
        edge("Terms 2", words, "MARKS 0 in the spare PLACE, the old ones stay", () -> {
            MendedBank x = swapped();
            for (int f = 0; f < 6; f++) {
                due("new marks", x.marks(f, 0, 8), 0);
                due("old marks", x.marks(f, 0, 0), f < 3 ? 2 : 0);
            }
            due("BAD CELLS in use", x.many(4), 0);
        });
        edge("Terms 2", words, "MARKS of all other CELLS stay", () -> {
            MendedBank x = marked();
            for (int p = 0; p < 3; p++) {
                wear(x, p, 0, 0, 2);
            }
            due("place", x.place(0), 8);
            dueMarked(x);
        });
        edge("Terms 2", words, "a STUCK CELL is left behind in the old PLACE", () -> {
            MendedBank x = coded(4, 4);
            x.stick(3, 3, 0, 1);
            for (int p = 0; p < 3; p++) {
                wear(x, p, 0, 0, 2);
            }
            due("STUCK CELLS in use", x.many(5), 0);
            due("what it had", x.raw(3, 3), 1);
            due("flip", x.flip(3, 3, 1), 1);
            due("raw", x.raw(3, 3), 0);
        });
        edge("Terms 2", words, "the last BIT, next to the spare PLACE", () -> {
            MendedBank x = coded(14, 6);
            x.write(3, 0, 16383);
            for (int p = 0; p < 3; p++) {
                wear(x, p, 0, 19, 2);
            }
            due("place(19)", x.place(19), 20);
            due("place(18)", x.place(18), 18);
            due("raw", x.raw(3, 0), (1 << 20) - 1);
            due("flip", x.flip(3, 0, 1 << 19), 1);
            due("read", x.read(3, 0), 16383);
            due("look(1)", x.look(1), 19);
        });
    }

    private static void retiringDue() {
        String four = "if the FRAME of the WORD has four BAD CELLS or more in PLACES in use";
        edge("Terms 2", four, "three are too few", () -> {
            MendedBank x = coded(4, 4);
            for (int b = 0; b < 3; b++) {
                wear(x, 0, 0, b, 5);
            }
            due("frame", x.frame(0), 0);
            due("retired(0)", x.retired(0), UNKNOWN);
        });
        edge("Terms 2", four, "three and one MARK of a fourth are too few", () -> {
            MendedBank x = coded(4, 4);
            for (int b = 0; b < 4; b++) {
                wear(x, 0, 0, b, b < 3 ? 2 : 1);
            }
            due("frame", x.frame(0), 0);
        });
        edge("Terms 2", four, "four of one WORD", () -> {
            MendedBank x = coded(4, 4);
            for (int b = 0; b < 4; b++) {
                due("frame", x.frame(0), 0);
                wear(x, 0, 3, b, 2);
            }
            due("look(3)", x.look(3), 1);
            due("frame", x.frame(0), 4);
        });
        edge("Terms 2", four, "one of each WORD", () -> {
            MendedBank x = coded(4, 4);
            for (int w = 0; w < 4; w++) {
                due("frame", x.frame(3), 3);
                wear(x, 3, w, 4 + w, 2);
            }
            due("look(3)", x.look(3), 1);
            due("frame", x.frame(3), 4);
        });
        edge("Terms 2", four, "those of another FRAME do not count", () -> {
            MendedBank x = coded(4, 4);
            for (int b = 0; b < 3; b++) {
                wear(x, 0, 0, b, 2);
            }
            wear(x, 1, 0, 3, 2);
            wear(x, 2, 0, 4, 2);
            due("BAD CELLS", x.many(4), 5);
            due("spare FRAMES", x.many(7), 2);
        });
        edge("Terms 2", four, "one of a PLACE that is no more in use does not count", () -> {
            MendedBank x = swapped();
            for (int b = 1; b < 4; b++) {
                wear(x, 0, 0, b, 2);
            }
            due("its marks", x.marks(0, 0, 0), 2);
            due("frame", x.frame(0), 0);
            wear(x, 0, 0, 4, 2);
            due("frame", x.frame(0), 4);
        });
        edge("Terms 2", four, "one of the spare PLACE counts, once it is in use", () -> {
            MendedBank x = swapped();
            for (int b = 1; b < 4; b++) {
                wear(x, 3, 0, b, 2);
            }
            wear(x, 3, 0, 0, 2);
            due("frame", x.frame(3), 4);
        });
        edge("Terms 2", four, "a CELL that the swap has just put out of use does not count", () -> {
            MendedBank x = coded(4, 4);
            wear(x, 1, 0, 0, 2);
            wear(x, 2, 0, 0, 2);
            for (int b = 1; b < 4; b++) {
                wear(x, 0, 0, b, 2);
            }
            wear(x, 0, 0, 0, 2);
            dueLook(x, 1, 0, 1, 0, 0, 0);
            due("frame", x.frame(0), 0);
            due("place", x.place(0), 8);
        });
        edge("Terms 2", "a spare FRAME is left", "both, one, none", () -> {
            MendedBank x = coded(14, 6);
            int[] wants = {4, 5, 2};
            for (int p = 0; p < 3; p++) {
                for (int b = 0; b < 4; b++) {
                    wear(x, p, p, 4 * p + b, 2);
                }
                due("look(3)", x.look(3), p < 2 ? 1 : 0);
                due("frame", x.frame(p), wants[p]);
                due("spare FRAMES", x.many(7), p < 2 ? 1 - p : 0);
            }
        });
        edge("Terms 2", "a spare FRAME is left", "none is, however many CELLS are BAD", () -> {
            MendedBank x = coded(14, 6);
            for (int b = 0; b < 16; b++) {
                wear(x, 1, b / 8, b, 2);
            }
            due("frame", x.frame(1), 5);
            due("BAD CELLS", x.many(4), 8);
            due("retired(2)", x.retired(2), UNKNOWN);
        });
    }

    private static void retiringDone() {
        String words = "all CELLS of the least spare FRAME that is left become what those of the FRAME have "
            + "(of all PLACES; MARKS 0, not STUCK); the PAGE is in that FRAME from now on";
        edge("Terms 2", words, "FRAME 4 first, then 5", () -> {
            MendedBank x = coded(14, 6);
            for (int b = 0; b < 4; b++) {
                wear(x, 3, 0, b, 2);
            }
            due("frame(3)", x.frame(3), 4);
            for (int b = 4; b < 8; b++) {
                wear(x, 0, 1, b, 2);
            }
            due("frame(0)", x.frame(0), 5);
            due("frame(3)", x.frame(3), 4);
        });
        edge("Terms 2", words, "a FRAME that was spare is retired too", () -> {
            MendedBank x = coded(14, 6);
            for (int b = 0; b < 8; b++) {
                wear(x, 3, 0, b, 2);
            }
            due("frame(3)", x.frame(3), 5);
            due("retired(1)", x.retired(1), 4);
        });
        edge("Terms 2", words, "all WORDS of the PAGE, the first and the last BIT", () -> {
            MendedBank x = coded(14, 6);
            int[] values = {1, 16383, 0, 8193};
            for (int w = 0; w < 4; w++) {
                x.write(2, w, values[w]);
            }
            for (int b = 0; b < 4; b++) {
                wear(x, 2, 0, b, 2);
            }
            due("frame(2)", x.frame(2), 4);
            for (int w = 0; w < 4; w++) {
                due("raw", x.raw(2, w), x.word(values[w]));
            }
        });
        edge("Terms 2", words, "the spare PLACE that is in use", () -> {
            MendedBank x = swapped();
            x.write(0, 3, 15);
            for (int b = 4; b < 8; b++) {
                wear(x, 0, 0, b, 2);
            }
            due("frame(0)", x.frame(0), 4);
            due("raw", x.raw(0, 3), 255);
        });
        edge("Terms 2", words, "MARKS 0 in the new FRAME, the old ones stay", () -> {
            MendedBank x = retired();
            for (int b = 4; b < 8; b++) {
                due("new marks", x.marks(4, 0, b), 0);
                due("old marks", x.marks(0, 0, b), 2);
            }
            due("BAD CELLS in use", x.many(4), 0);
        });
        edge("Terms 2", words, "MARKS of all other FRAMES stay", () -> {
            MendedBank x = marked();
            for (int b = 4; b < 8; b++) {
                wear(x, 0, 0, b, 2);
            }
            due("frame(0)", x.frame(0), 4);
            dueMarked(x);
        });
        edge("Terms 2", words, "MARKS of the last CELL ahead of the new FRAME stay", () -> {
            MendedBank x = coded(14, 6);
            for (int p = 0; p < 3; p++) {
                wear(x, p, 0, 19, 2);
            }
            wear(x, 3, 3, 19, 1);
            due("marks", x.marks(3, 3, 20), 1);
            for (int b = 0; b < 4; b++) {
                wear(x, 0, 0, b, 2);
            }
            due("frame(0)", x.frame(0), 4);
            due("marks", x.marks(3, 3, 20), 1);
        });
        edge("Terms 2", words, "a STUCK CELL is left behind in the old FRAME", () -> {
            MendedBank x = coded(4, 4);
            x.stick(0, 3, 0, 1);
            for (int b = 4; b < 8; b++) {
                wear(x, 0, 0, b, 2);
            }
            due("STUCK CELLS in use", x.many(5), 0);
            due("what it had", x.raw(0, 3), 1);
            due("flip", x.flip(0, 3, 1), 1);
            due("raw", x.raw(0, 3), 0);
        });
    }

    private static void scrubber() {
        String reading = "READING a WORD is a LOOK.";
        edge("Terms 2", reading, "nothing is put into the WORD", () -> {
            MendedBank x = coded(4, 4);
            x.flip(0, 0, 1);
            due("read", x.read(0, 0), 0);
            due("raw", x.raw(0, 0), 1);
        });
        String words = "SCRUBBING a WORD is a LOOK, and then, if it was MENDED, the mended set is put into the WORD "
            + "(to where its BITS are then).";
        edge("Terms 2", words, "a MENDED one", () -> {
            MendedBank x = coded(4, 4);
            x.flip(0, 0, 1);
            due("scrub", x.scrub(1), 1);
            due("raw", x.raw(0, 0), 0);
        });
        edge("Terms 2", words, "a MENDED one, wrongly", () -> {
            MendedBank x = coded(4, 4);
            x.flip(0, 0, 7);
            due("scrub", x.scrub(1), 1);
            due("raw", x.raw(0, 0), 23);
        });
        edge("Terms 2", words, "a FOUND one stays", () -> {
            MendedBank x = coded(4, 4);
            x.flip(0, 0, 3);
            due("scrub", x.scrub(1), 0);
            due("raw", x.raw(0, 0), 3);
        });
        edge("Terms 2", words, "a CLEAN one stays", () -> {
            MendedBank x = coded(4, 4);
            x.flip(0, 0, 255);
            due("scrub", x.scrub(1), 0);
            due("raw", x.raw(0, 0), 255);
        });
        edge("Terms 2", words, "a BIT that the LOOK itself has swapped", () -> {
            MendedBank x = coded(4, 4);
            wear(x, 1, 0, 0, 2);
            wear(x, 2, 0, 0, 2);
            wear(x, 0, 0, 0, 1);
            x.stick(0, 0, 0, 1);
            due("scrub", x.scrub(1), 1);
            due("look(2)", x.look(2), 1);
            due("raw", x.raw(0, 0), 0);
        });
        edge("Terms 2", words, "a PAGE whose FRAME the LOOK itself has retired", () -> {
            MendedBank x = coded(4, 4);
            for (int b = 4; b < 8; b++) {
                wear(x, 0, 0, b, b < 7 ? 2 : 1);
            }
            x.stick(0, 0, 7, 1);
            due("scrub", x.scrub(1), 1);
            due("look(3)", x.look(3), 1);
            due("raw", x.raw(0, 0), 0);
        });
        String round = "The scrubber goes round: WORD by WORD, behind WORD 3 of a PAGE comes WORD 0 of the next PAGE, "
            + "behind that of PAGE 3 that of PAGE 0; at first WORD 0 of PAGE 0 comes.";
        edge("Terms 2", round, "at first WORD 0 of PAGE 0", () -> {
            MendedBank x = coded(4, 4);
            x.scrub(1);
            dueLook(x, 0, NONE, 0, 0, 0, 0);
        });
        edge("Terms 2", round, "behind WORD 3 WORD 0 of the next PAGE", () -> {
            for (int p = 0; p < 3; p++) {
                MendedBank x = coded(4, 4);
                x.scrub(4 * p + 4);
                dueLook(x, 0, NONE, 0, 0, p, 3);
                x.scrub(1);
                dueLook(x, 0, NONE, 0, 0, p + 1, 0);
            }
        });
        edge("Terms 2", round, "behind WORD 3 of PAGE 3 WORD 0 of PAGE 0", () -> {
            MendedBank x = coded(4, 4);
            x.scrub(16);
            dueLook(x, 0, NONE, 0, 0, 3, 3);
            x.scrub(1);
            dueLook(x, 0, NONE, 0, 0, 0, 0);
        });
        edge("Terms 2", round, "word by word round, by calls of one", () -> {
            MendedBank x = coded(4, 4);
            for (int i = 0; i < 40; i++) {
                due("next PAGE", x.many(8), i / 4 % 4);
                due("next WORD", x.many(9), i % 4);
                x.scrub(1);
                due("its PAGE", x.look(4), i / 4 % 4);
                due("its WORD", x.look(5), i % 4);
            }
        });
        edge("Terms 2", round, "round and round in one call", () -> {
            MendedBank x = coded(4, 4);
            x.stick(0, 0, 0, 1);
            x.stick(0, 1, 1, 1);
            due("scrub", x.scrub(49), 7);
            due("marks of WORD 0", x.marks(0, 0, 0), 4);
            due("marks of WORD 1", x.marks(0, 1, 1), 3);
        });
        edge("Terms 2", round, "PAGES, not FRAMES", () -> {
            MendedBank x = retired();
            x.scrub(17);
            dueLook(x, 0, NONE, 0, 0, 0, 0);
        });
    }

    private static void patterns() {
        edge("Terms 3", "PATTERNS of n flips: sets of n BITS.", "none, one, the most", () -> {
            MendedBank x = coded(14, 6);
            int[] wants = {1, 20, 190, 1140, 4845};
            for (int n = 0; n <= 4; n++) {
                due("of 20 BITS", x.patterns(n, 0), wants[n]);
            }
        });
        edge("Terms 3", "PATTERNS of n flips: sets of n BITS.", "nearly all BITS of the narrowest WORD", () -> {
            MendedBank x = coded(1, 4);
            int[] wants = {1, 5, 10, 10, 5};
            for (int n = 0; n <= 4; n++) {
                due("of 5 BITS", x.patterns(n, 0), wants[n]);
            }
        });
        edge("Terms 3", "One is MISSED, if it is CLEAN (n above 0)", "the empty one is CLEAN, but not MISSED", () -> {
            for (int c = 4; c <= 6; c++) {
                due("patterns(0, 1)", coded(most(c), c).patterns(0, 1), 0);
            }
        });
        edge("Terms 3", "One is MISSED, if it is CLEAN (n above 0)", "fewer than four flips never are", () -> {
            for (int c = 4; c <= 6; c++) {
                MendedBank x = coded(most(c), c);
                dueEach("patterns(n, 1)", n -> x.patterns(n, 1), 0, 1, 2, 3);
            }
            due("patterns(4, 1)", coded(1, 4).patterns(4, 1), 1);
        });
        edge("Terms 3", "MENDED rightly, if the mended set is empty; MENDED wrongly, else; or FOUND.",
            "one flip: each rightly", () -> {
                MendedBank x = coded(11, 5);
                int[] wants = {16, 0, 16, 0, 0};
                for (int what = 0; what < 5; what++) {
                    due("patterns(1, " + what + ")", x.patterns(1, what), wants[what]);
                }
            });
        edge("Terms 3", "MENDED rightly, if the mended set is empty; MENDED wrongly, else; or FOUND.",
            "two flips: each FOUND", () -> {
                MendedBank x = coded(11, 5);
                int[] wants = {120, 0, 0, 0, 120};
                for (int what = 0; what < 5; what++) {
                    due("patterns(2, " + what + ")", x.patterns(2, what), wants[what]);
                }
            });
        edge("Terms 3", "MENDED rightly, if the mended set is empty; MENDED wrongly, else; or FOUND.",
            "three flips: all wrongly in a full code, some FOUND in another", () -> {
                due("all columns", coded(11, 5).patterns(3, 3), 560);
                due("all columns", coded(11, 5).patterns(3, 4), 0);
                due("five columns of eight", coded(1, 4).patterns(3, 3), 4);
                due("five columns of eight", coded(1, 4).patterns(3, 4), 6);
            });
    }

    private static void dueShare(int t, int s, long upper, long lower) {
        MendedBank x = new MendedBank();
        due("safe(" + t + ", " + s + ", 0)", x.safe(t, s, 0), upper);
        due("safe(" + t + ", " + s + ", 1)", x.safe(t, s, 1), lower);
    }

    private static void walks() {
        String words = "one is SAFE, if no WORD is hit twice without the scrubber going over it between.";
        edge("Terms 3", words, "the empty walk", () -> {
            for (int s = 1; s <= 12; s++) {
                dueShare(0, s, 1, 1);
            }
        });
        edge("Terms 3", words, "one flip", () -> {
            for (int s = 1; s <= 12; s++) {
                dueShare(1, s, 1, 1);
            }
        });
        String scrubs = "the scrubber going over all WORDS behind each s of them";
        edge("Terms 3", scrubs, "behind each single one", () -> {
            for (int t = 2; t <= 12; t++) {
                dueShare(t, 1, 1, 1);
            }
        });
        edge("Terms 3", scrubs, "behind the last one, where it helps no more", () -> {
            dueShare(2, 2, 15, 16);
            dueShare(3, 3, 105, 128);
        });
        edge("Terms 3", scrubs, "one flip behind it is free again", () -> {
            dueShare(3, 2, 15, 16);
            dueShare(4, 3, 105, 128);
        });
        edge("Terms 3", scrubs, "two flips behind it are not", () -> {
            dueShare(4, 2, 225, 256);
            dueShare(5, 3, 105 * 15, 128 * 16);
        });
        edge("Terms 3", scrubs, "never within the walk", () -> {
            dueShare(3, 4, 105, 128);
            dueShare(3, 12, 105, 128);
            dueShare(4, 12, 1365, 2048);
        });
    }
}
