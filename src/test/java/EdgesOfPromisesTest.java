/** The boundary cases that the promises name, each by a test of its own. */
public final class EdgesOfPromisesTest extends Edges {
    public static void main(String[] args) {
        newObject();
        code();
        column();
        ones();
        word();
        syndrome();
        mended();
        write();
        read();
        raw();
        flip();
        stick();
        scrub();
        look();
        fate();
        marks();
        frame();
        place();
        retired();
        troubled();
        mends();
        patterns();
        weight();
        safe();
        many();
        end();
    }

    private static void newObject() {
        String words = "There is no CODE, and no BANK.";
        edge("Promise 1", words, "no CODE", () -> {
            MendedBank x = new MendedBank();
            due("column", x.column(0), UNKNOWN);
            due("ones", x.ones(0), UNKNOWN);
            due("word", x.word(0), STATE);
            due("syndrome", x.syndrome(0), STATE);
            due("mended", x.mended(0), STATE);
            due("patterns", x.patterns(0, 0), STATE);
            due("weight", x.weight(), STATE);
        });
        edge("Promise 1", words, "no BANK", () -> {
            MendedBank x = new MendedBank();
            due("write", x.write(0, 0, 0), UNKNOWN);
            due("read", x.read(0, 0), UNKNOWN);
            due("raw", x.raw(0, 0), UNKNOWN);
            due("flip", x.flip(0, 0, 0), UNKNOWN);
            due("stick", x.stick(0, 0, 0, 0), UNKNOWN);
            due("scrub", x.scrub(0), STATE);
            due("look", x.look(0), NONE);
            due("fate", x.fate(0, 0, 0), UNKNOWN);
            due("marks", x.marks(0, 0, 0), UNKNOWN);
            due("frame", x.frame(0), UNKNOWN);
            due("place", x.place(0), UNKNOWN);
            due("retired", x.retired(0), UNKNOWN);
            due("troubled", x.troubled(0), UNKNOWN);
            due("mends", x.mends(0), UNKNOWN);
        });
        edge("Promise 1", words, "two objects have nothing in common", () -> {
            MendedBank x = coded(4, 4);
            MendedBank y = new MendedBank();
            due("weight", y.weight(), STATE);
            y.code(1, 6);
            x.write(0, 0, 15);
            due("weight", x.weight(), 12);
            due("raw", y.raw(0, 0), 0);
        });
    }

    private static void code() {
        String words = "A CODE of d data, c check BITS, and a new BANK, in place of any there was: "
            + "how many BITS a WORD has. OUTSIDE.";
        edge("Promise 2", words, "the narrowest and the widest WORD", () -> {
            due("code(1, 4)", new MendedBank().code(1, 4), 5);
            due("code(14, 6)", new MendedBank().code(14, 6), 20);
        });
        edge("Promise 2", words, "d that another c would take", () -> {
            due("code(11, 4)", new MendedBank().code(11, 4), OUTSIDE);
            due("code(14, 5)", new MendedBank().code(14, 5), OUTSIDE);
            due("code(14, 4)", new MendedBank().code(14, 4), OUTSIDE);
        });
        edge("Promise 2", words, "d and c both wrong", () -> {
            due("code(0, 0)", new MendedBank().code(0, 0), OUTSIDE);
            due("code(MOST, MOST)", new MendedBank().code(MOST, MOST), OUTSIDE);
            due("code(LEAST, LEAST)", new MendedBank().code(LEAST, LEAST), OUTSIDE);
        });
        edge("Promise 2", words, "a refusal on a new object makes no CODE", () -> {
            MendedBank x = new MendedBank();
            due("code(5, 4)", x.code(5, 4), OUTSIDE);
            due("weight", x.weight(), STATE);
            due("raw", x.raw(0, 0), UNKNOWN);
        });
        edge("Promise 2", words, "a refusal leaves the CODE and the BANK", () ->
            changesNothing(x -> {
                due("d too large", x.code(5, 4), OUTSIDE);
                due("d too small", x.code(0, 6), OUTSIDE);
                due("c too small", x.code(1, 3), OUTSIDE);
                due("c too large", x.code(1, 7), OUTSIDE);
            }));
        edge("Promise 2", words, "the same CODE again: a new BANK", () -> {
            MendedBank x = worn();
            due("code(1, 4)", x.code(1, 4), 5);
            for (int i = 0; i < 16; i++) {
                due("raw", x.raw(i / 4, i % 4), 0);
                due("fate: no value was put there", x.fate(i / 4, i % 4, 0), 0);
                due("none STUCK", x.flip(i / 4, i % 4, 31), 5);
            }
            due("all marks", allMarks(x, 6), 0);
            for (int p = 0; p < 4; p++) {
                due("frame", x.frame(p), p);
                due("mends", x.mends(p), 0);
                due("troubled", x.troubled(p), UNKNOWN);
                due("retired", x.retired(p), UNKNOWN);
            }
            due("place(2)", x.place(2), 2);
            dueLook(x, NONE, NONE, NONE, NONE, NONE, NONE);
            int[] wants = {0, 0, 0, 0, 0, 0, 0, 2, 0, 0};
            for (int what = 0; what < 10; what++) {
                due("many(" + what + ")", x.many(what), wants[what]);
            }
        });
        edge("Promise 2", words, "a new BANK behind two that moved: all PAGES are back", () -> {
            for (int first = 0; first < 4; first++) {
                MendedBank x = coded(14, 6);
                int second = (first + 1) % 4;
                for (int b = 0; b < 4; b++) {
                    wear(x, first, 0, b, 2);
                    wear(x, second, 1, 4 + b, 2);
                }
                due("moved", x.frame(first) + x.frame(second), 9);
                x.code(14, 6);
                for (int p = 0; p < 4; p++) {
                    due("frame(" + p + ")", x.frame(p), p);
                }
            }
        });
        edge("Promise 2", words, "a narrower CODE leaves nothing of a wider one", () -> {
            MendedBank x = coded(14, 6);
            x.patterns(3, 3);
            due("code(1, 4)", x.code(1, 4), 5);
            due("column(5)", x.column(5), UNKNOWN);
            due("column(4)", x.column(4), 8);
            due("ones(4)", x.ones(4), UNKNOWN);
            due("ones(3)", x.ones(3), 0);
            due("weight", x.weight(), 3);
            due("word(2)", x.word(2), OUTSIDE);
            due("syndrome(32)", x.syndrome(32), OUTSIDE);
            // BITS 1, 2, 4 have COLUMNS 1, 2, 8: together 11, which was a COLUMN of the wider one.
            due("mended(22)", x.mended(22), FOUND);
            due("marks of PLACE 6", x.marks(0, 0, 6), UNKNOWN);
            due("place(5)", x.place(5), UNKNOWN);
            due("patterns(3, 3)", x.patterns(3, 3), 4);
        });
        edge("Promise 2", words, "a wider CODE behind a narrower one", () -> {
            MendedBank x = worn();
            x.patterns(3, 3);
            due("code(14, 6)", x.code(14, 6), 20);
            due("raw", x.raw(3, 2), 0);
            due("marks of PLACE 5", x.marks(0, 0, 5), 0);
            due("place(2)", x.place(2), 2);
            due("place(5)", x.place(5), 5);
            due("flip", x.flip(3, 2, (1 << 20) - 1), 20);
            due("raw", x.raw(3, 2), (1 << 20) - 1);
            due("patterns(3, 3)", x.patterns(3, 3), 676);
            due("weight", x.weight(), 42);
        });
    }

    private static void column() {
        String words = "The COLUMN of a BIT. UNKNOWN.";
        edge("Promise 3", words, "the first and the last BIT", () -> {
            MendedBank x = coded(14, 6);
            due("column(0)", x.column(0), 7);
            due("column(13)", x.column(13), 41);
            due("column(14)", x.column(14), 1);
            due("column(19)", x.column(19), 32);
        });
        edge("Promise 3", words, "a BIT too small", () ->
            dueEach("column", coded(4, 4)::column, UNKNOWN, TOO_SMALL));
        edge("Promise 3", words, "a BIT too large", () -> {
            dueEach("column", coded(1, 4)::column, UNKNOWN, tooLarge(5));
            dueEach("column", coded(4, 4)::column, UNKNOWN, tooLarge(8));
            dueEach("column", coded(14, 6)::column, UNKNOWN, tooLarge(20));
        });
        edge("Promise 3", words, "no CODE", () ->
            dueEach("column", new MendedBank()::column, UNKNOWN, 0, 1, -1, MOST, LEAST));
        edge("Promise 3", words, "a refusal changes nothing", () ->
            changesNothing(x -> due("column", x.column(5), UNKNOWN)));
    }

    private static void ones() {
        String words = "How many ones row i (0 .. c - 1) has (of data BITS). UNKNOWN.";
        edge("Promise 4", words, "the first and the last row", () -> {
            MendedBank x = coded(2, 6);
            due("ones(0)", x.ones(0), 1);
            due("ones(5)", x.ones(5), 1);
            MendedBank y = coded(11, 5);
            due("ones(0)", y.ones(0), 7);
            due("ones(4)", y.ones(4), 7);
        });
        edge("Promise 4", words, "an empty row", () -> due("ones(3)", coded(1, 4).ones(3), 0));
        edge("Promise 4", words, "a row too small", () ->
            dueEach("ones", coded(4, 4)::ones, UNKNOWN, TOO_SMALL));
        edge("Promise 4", words, "a row too large", () -> {
            dueEach("ones", coded(4, 4)::ones, UNKNOWN, tooLarge(4));
            dueEach("ones", coded(11, 5)::ones, UNKNOWN, tooLarge(5));
            dueEach("ones", coded(14, 6)::ones, UNKNOWN, tooLarge(6));
        });
        edge("Promise 4", words, "no CODE", () ->
            dueEach("ones", new MendedBank()::ones, UNKNOWN, 0, 1, -1, MOST, LEAST));
        edge("Promise 4", words, "a refusal changes nothing", () ->
            changesNothing(x -> due("ones", x.ones(4), UNKNOWN)));
    }

    private static void word() {
        String words = "The WORD of a value: its BITS as a set. STATE: there is no CODE; OUTSIDE.";
        edge("Promise 5", words, "the least and the greatest value", () -> {
            due("word(0)", coded(4, 4).word(0), 0);
            due("word(15)", coded(4, 4).word(15), 255);
            due("word(1)", coded(1, 4).word(1), 15);
            due("word(2047)", coded(11, 5).word(2047), 65535);
        });
        edge("Promise 5", words, "a value too small", () -> dueEach("word", coded(4, 4)::word, OUTSIDE, TOO_SMALL));
        edge("Promise 5", words, "a value too large", () -> {
            dueEach("word", coded(1, 4)::word, OUTSIDE, tooLarge(2));
            dueEach("word", coded(4, 4)::word, OUTSIDE, tooLarge(16));
            dueEach("word", coded(14, 6)::word, OUTSIDE, tooLarge(1 << 14));
        });
        edge("Promise 5", words, "no CODE", () -> due("word", new MendedBank().word(0), STATE));
        edge("Promise 5", words, "a refusal changes nothing", () ->
            changesNothing(x -> due("word", x.word(2), OUTSIDE)));
    }

    private static void syndrome() {
        String words = "SYNDROME of a set of BITS. STATE: there is no CODE; OUTSIDE.";
        edge("Promise 6", words, "the empty and the full set", () -> {
            due("syndrome(0)", coded(1, 4).syndrome(0), 0);
            due("syndrome(31)", coded(1, 4).syndrome(31), 8);
        });
        edge("Promise 6", words, "a set too small", () ->
            dueEach("syndrome", coded(4, 4)::syndrome, OUTSIDE, TOO_SMALL));
        edge("Promise 6", words, "a set too large", () -> {
            dueEach("syndrome", coded(1, 4)::syndrome, OUTSIDE, tooLarge(32));
            dueEach("syndrome", coded(4, 4)::syndrome, OUTSIDE, tooLarge(256));
            dueEach("syndrome", coded(14, 6)::syndrome, OUTSIDE, tooLarge(1 << 20));
        });
        edge("Promise 6", words, "no CODE", () -> due("syndrome", new MendedBank().syndrome(0), STATE));
        edge("Promise 6", words, "a refusal changes nothing", () ->
            changesNothing(x -> due("syndrome", x.syndrome(32), OUTSIDE)));
    }

    private static void mended() {
        String words = "What a set of BITS becomes: CLEAN itself, MENDED the mended one, FOUND. "
            + "STATE: there is no CODE; OUTSIDE.";
        edge("Promise 7", words, "the empty and the full set", () -> {
            due("mended(0)", coded(1, 4).mended(0), 0);
            due("mended(31)", coded(1, 4).mended(31), 15);
        });
        edge("Promise 7", words, "one, two, three BITS", () -> {
            MendedBank x = coded(4, 4);
            due("one", x.mended(128), 0);
            due("two", x.mended(192), FOUND);
            due("three", x.mended(224), 224 | 8);
        });
        edge("Promise 7", words, "it is no LOOK", () ->
            changesNothing(x -> due("mended", x.mended(1), 0)));
        edge("Promise 7", words, "a set too small", () -> dueEach("mended", coded(4, 4)::mended, OUTSIDE, TOO_SMALL));
        edge("Promise 7", words, "a set too large", () -> {
            dueEach("mended", coded(1, 4)::mended, OUTSIDE, tooLarge(32));
            dueEach("mended", coded(4, 4)::mended, OUTSIDE, tooLarge(256));
            dueEach("mended", coded(14, 6)::mended, OUTSIDE, tooLarge(1 << 20));
        });
        edge("Promise 7", words, "no CODE", () -> due("mended", new MendedBank().mended(0), STATE));
        edge("Promise 7", words, "a refusal changes nothing", () ->
            changesNothing(x -> due("mended", x.mended(32), OUTSIDE)));
    }

    private static void write() {
        String words = "The WORD of a value is put into WORD w of a PAGE: 1. UNKNOWN; OUTSIDE.";
        edge("Promise 8", words, "the least and the greatest value", () -> {
            MendedBank x = coded(14, 6);
            due("write", x.write(0, 0, 16383), 1);
            due("raw", x.raw(0, 0), (1 << 20) - 1);
            due("write", x.write(0, 0, 0), 1);
            due("raw", x.raw(0, 0), 0);
        });
        edge("Promise 8", words, "the last WORD of the last PAGE, and no other", () -> {
            MendedBank x = coded(4, 4);
            due("write", x.write(3, 3, 15), 1);
            for (int i = 0; i < 16; i++) {
                due("raw", x.raw(i / 4, i % 4), i == 15 ? 255 : 0);
            }
        });
        edge("Promise 8", words, "a PAGE too small", () ->
            dueEach("write", p -> coded(4, 4).write(p, 0, 0), UNKNOWN, TOO_SMALL));
        edge("Promise 8", words, "a PAGE too large", () ->
            dueEach("write", p -> coded(4, 4).write(p, 0, 0), UNKNOWN, tooLarge(4)));
        edge("Promise 8", words, "a WORD too small", () ->
            dueEach("write", w -> coded(4, 4).write(1, w, 0), UNKNOWN, TOO_SMALL));
        edge("Promise 8", words, "a WORD too large", () ->
            dueEach("write", w -> coded(4, 4).write(1, w, 0), UNKNOWN, tooLarge(4)));
        edge("Promise 8", words, "a value too small", () ->
            dueEach("write", v -> coded(4, 4).write(0, 0, v), OUTSIDE, TOO_SMALL));
        edge("Promise 8", words, "a value too large", () -> {
            dueEach("write", v -> coded(1, 4).write(0, 0, v), OUTSIDE, tooLarge(2));
            dueEach("write", v -> coded(14, 6).write(0, 0, v), OUTSIDE, tooLarge(1 << 14));
        });
        edge("Promise 8", words, "no CODE", () -> due("write", new MendedBank().write(0, 0, 0), UNKNOWN));
        edge("Promise 8", words, "a refusal changes nothing", () ->
            changesNothing(x -> {
                due("a wrong PAGE", x.write(4, 0, 1), UNKNOWN);
                due("a wrong WORD", x.write(0, 4, 1), UNKNOWN);
                due("a wrong value", x.write(0, 0, 3), OUTSIDE);
                due("a wrong value", x.write(0, 1, -1), OUTSIDE);
            }));
    }

    private static void read() {
        String words = "READING: the value (data BITS, as mended); FOUND. UNKNOWN.";
        edge("Promise 9", words, "ahead of any write", () -> due("read", coded(4, 4).read(0, 0), 0));
        edge("Promise 9", words, "the greatest value, a data or a check BIT wrong", () -> {
            MendedBank x = coded(14, 6);
            x.write(3, 3, 16383);
            due("none", x.read(3, 3), 16383);
            x.flip(3, 3, 1);
            due("the first", x.read(3, 3), 16383);
            x.flip(3, 3, 1 | 1 << 13);
            due("the last data BIT", x.read(3, 3), 16383);
            x.flip(3, 3, 1 << 13 | 1 << 19);
            due("the last", x.read(3, 3), 16383);
        });
        edge("Promise 9", words, "one BIT too many", () -> {
            MendedBank x = coded(4, 4);
            x.write(0, 0, 9);
            x.flip(0, 0, 1 << 7);
            due("one", x.read(0, 0), 9);
            x.flip(0, 0, 1 << 6);
            due("two", x.read(0, 0), FOUND);
        });
        edge("Promise 9", words, "a PAGE too small", () ->
            dueEach("read", p -> coded(4, 4).read(p, 0), UNKNOWN, TOO_SMALL));
        edge("Promise 9", words, "a PAGE too large", () ->
            dueEach("read", p -> coded(4, 4).read(p, 0), UNKNOWN, tooLarge(4)));
        edge("Promise 9", words, "a WORD too small", () ->
            dueEach("read", w -> coded(4, 4).read(1, w), UNKNOWN, TOO_SMALL));
        edge("Promise 9", words, "a WORD too large", () ->
            dueEach("read", w -> coded(4, 4).read(1, w), UNKNOWN, tooLarge(4)));
        edge("Promise 9", words, "no CODE", () -> due("read", new MendedBank().read(0, 0), UNKNOWN));
        edge("Promise 9", words, "a refusal changes nothing: it is no LOOK", () ->
            changesNothing(x -> {
                due("a wrong PAGE", x.read(4, 0), UNKNOWN);
                due("a wrong WORD", x.read(1, -1), UNKNOWN);
            }));
    }

    private static void raw() {
        String words = "The BITS of a WORD as its CELLS have them (no LOOK). UNKNOWN.";
        edge("Promise 10", words, "all CELLS 0, all 1", () -> {
            MendedBank x = coded(14, 6);
            due("raw", x.raw(2, 3), 0);
            x.flip(2, 3, (1 << 20) - 1);
            due("raw", x.raw(2, 3), (1 << 20) - 1);
        });
        edge("Promise 10", words, "a set that is FOUND", () -> {
            MendedBank x = coded(4, 4);
            x.flip(0, 0, 3);
            due("raw", x.raw(0, 0), 3);
        });
        edge("Promise 10", words, "it is no LOOK", () ->
            changesNothing(x -> {
                x.raw(1, 1);
                x.raw(2, 2);
            }));
        edge("Promise 10", words, "a BIT in the spare PLACE, and not what its old CELL has", () -> {
            MendedBank x = worn();
            x.write(2, 3, 1);
            due("raw", x.raw(2, 3), 15);
            due("flip", x.flip(2, 3, 4), 1);
            due("raw", x.raw(2, 3), 11);
        });
        edge("Promise 10", words, "a PAGE too small", () ->
            dueEach("raw", p -> coded(4, 4).raw(p, 0), UNKNOWN, TOO_SMALL));
        edge("Promise 10", words, "a PAGE too large", () ->
            dueEach("raw", p -> coded(4, 4).raw(p, 0), UNKNOWN, tooLarge(4)));
        edge("Promise 10", words, "a WORD too small", () ->
            dueEach("raw", w -> coded(4, 4).raw(1, w), UNKNOWN, TOO_SMALL));
        edge("Promise 10", words, "a WORD too large", () ->
            dueEach("raw", w -> coded(4, 4).raw(1, w), UNKNOWN, tooLarge(4)));
        edge("Promise 10", words, "no CODE", () -> due("raw", new MendedBank().raw(0, 0), UNKNOWN));
        edge("Promise 10", words, "a refusal changes nothing", () ->
            changesNothing(x -> {
                due("a wrong PAGE", x.raw(4, 0), UNKNOWN);
                due("a wrong WORD", x.raw(0, 4), UNKNOWN);
            }));
    }

    private static void flip() {
        String words = "CELLS of a set of BITS of a WORD become the other way, but for STUCK ones: how many did. "
            + "UNKNOWN; OUTSIDE.";
        edge("Promise 11", words, "the empty set", () -> {
            MendedBank x = coded(4, 4);
            x.write(0, 0, 6);
            due("flip", x.flip(0, 0, 0), 0);
            due("raw", x.raw(0, 0), 102);
        });
        edge("Promise 11", words, "the full set, there and back", () -> {
            MendedBank x = coded(14, 6);
            x.write(0, 0, 1);
            int all = (1 << 20) - 1;
            due("flip", x.flip(0, 0, all), 20);
            due("raw", x.raw(0, 0), x.word(1) ^ all);
            due("flip", x.flip(0, 0, all), 20);
            due("raw", x.raw(0, 0), x.word(1));
        });
        edge("Promise 11", words, "some of the set STUCK", () -> {
            MendedBank x = coded(4, 4);
            x.stick(0, 0, 0, 0);
            x.stick(0, 0, 7, 1);
            due("flip", x.flip(0, 0, 1 | 2 | 128), 1);
            due("raw", x.raw(0, 0), 2 | 128);
        });
        edge("Promise 11", words, "all of the set STUCK", () -> {
            MendedBank x = coded(4, 4);
            x.stick(0, 0, 0, 0);
            x.stick(0, 0, 7, 1);
            due("flip", x.flip(0, 0, 129), 0);
            due("raw", x.raw(0, 0), 128);
        });
        edge("Promise 11", words, "it is no LOOK", () -> {
            MendedBank x = coded(4, 4);
            x.flip(0, 0, 1);
            due("many(0)", x.many(0), 0);
            due("look(0)", x.look(0), NONE);
        });
        edge("Promise 11", words, "a PAGE too small", () ->
            dueEach("flip", p -> coded(4, 4).flip(p, 0, 0), UNKNOWN, TOO_SMALL));
        edge("Promise 11", words, "a PAGE too large", () ->
            dueEach("flip", p -> coded(4, 4).flip(p, 0, 0), UNKNOWN, tooLarge(4)));
        edge("Promise 11", words, "a WORD too small", () ->
            dueEach("flip", w -> coded(4, 4).flip(1, w, 0), UNKNOWN, TOO_SMALL));
        edge("Promise 11", words, "a WORD too large", () ->
            dueEach("flip", w -> coded(4, 4).flip(1, w, 0), UNKNOWN, tooLarge(4)));
        edge("Promise 11", words, "a set too small", () ->
            dueEach("flip", set -> coded(4, 4).flip(0, 0, set), OUTSIDE, TOO_SMALL));
        edge("Promise 11", words, "a set too large: the spare PLACE is no BIT", () -> {
            dueEach("flip", set -> coded(1, 4).flip(0, 0, set), OUTSIDE, tooLarge(32));
            dueEach("flip", set -> coded(4, 4).flip(0, 0, set), OUTSIDE, tooLarge(256));
            dueEach("flip", set -> coded(14, 6).flip(0, 0, set), OUTSIDE, tooLarge(1 << 20));
        });
        edge("Promise 11", words, "no CODE", () -> due("flip", new MendedBank().flip(0, 0, 0), UNKNOWN));
        edge("Promise 11", words, "a refusal changes nothing", () ->
            changesNothing(x -> {
                due("a wrong PAGE", x.flip(4, 0, 1), UNKNOWN);
                due("a wrong WORD", x.flip(0, 4, 1), UNKNOWN);
                due("a wrong set", x.flip(0, 0, 33), OUTSIDE);
                due("a wrong set", x.flip(0, 0, -1), OUTSIDE);
            }));
    }

    private static void stick() {
        String words = "The CELL in which BIT b of a WORD is now: becomes v (0, 1) and is STUCK; "
            + "or (2) is STUCK no more: what it had. UNKNOWN: PAGE, WORD, BIT; OUTSIDE.";
        edge("Promise 12", words, "at 0, what it has", () -> {
            MendedBank x = coded(4, 4);
            due("stick", x.stick(0, 0, 0, 0), 0);
            due("raw", x.raw(0, 0), 0);
            due("STUCK", x.flip(0, 0, 1), 0);
        });
        edge("Promise 12", words, "at 1, the other way", () -> {
            MendedBank x = coded(4, 4);
            due("stick", x.stick(0, 0, 0, 1), 0);
            due("raw", x.raw(0, 0), 1);
            due("STUCK", x.flip(0, 0, 1), 0);
        });
        edge("Promise 12", words, "at 0, the other way", () -> {
            MendedBank x = coded(4, 4);
            x.flip(0, 0, 255);
            due("stick", x.stick(0, 0, 7, 0), 1);
            due("raw", x.raw(0, 0), 127);
        });
        edge("Promise 12", words, "a CELL that is STUCK already becomes v too", () -> {
            MendedBank x = coded(4, 4);
            x.stick(0, 0, 0, 0);
            due("stick", x.stick(0, 0, 0, 1), 0);
            due("raw", x.raw(0, 0), 1);
            due("STUCK still", x.flip(0, 0, 1), 0);
            due("STUCK once", x.many(5), 1);
            due("stick", x.stick(0, 0, 0, 0), 1);
            due("STUCK once", x.many(5), 1);
        });
        edge("Promise 12", words, "STUCK no more: it keeps what it had", () -> {
            MendedBank x = coded(4, 4);
            x.stick(0, 0, 3, 1);
            due("stick", x.stick(0, 0, 3, 2), 1);
            due("raw", x.raw(0, 0), 8);
            due("flip", x.flip(0, 0, 8), 1);
            due("STUCK", x.many(5), 0);
        });
        edge("Promise 12", words, "STUCK no more, when it never was", () -> {
            MendedBank x = coded(4, 4);
            x.flip(0, 0, 8);
            due("with 1", x.stick(0, 0, 3, 2), 1);
            due("with 0", x.stick(0, 0, 4, 2), 0);
            due("raw", x.raw(0, 0), 8);
            due("STUCK", x.many(5), 0);
        });
        edge("Promise 12", words, "the first and the last BIT of the widest WORD", () -> {
            MendedBank x = coded(14, 6);
            due("BIT 0", x.stick(3, 3, 0, 1), 0);
            due("BIT 19", x.stick(3, 3, 19, 1), 0);
            due("raw", x.raw(3, 3), 1 | 1 << 19);
        });
        edge("Promise 12", words, "a BIT that is in the spare PLACE now", () -> {
            MendedBank x = worn();
            x.write(2, 3, 0);
            due("stick", x.stick(2, 3, 2, 1), 0);
            due("raw", x.raw(2, 3), 4);
            due("in use and STUCK", x.many(5), 3);
        });
        edge("Promise 12", words, "no MARK and no LOOK by it", () -> {
            MendedBank x = coded(4, 4);
            x.stick(0, 0, 0, 1);
            due("marks", x.marks(0, 0, 0), 0);
            due("many(0)", x.many(0), 0);
        });
        edge("Promise 12", words, "a PAGE too small", () ->
            dueEach("stick", p -> coded(4, 4).stick(p, 0, 0, 0), UNKNOWN, TOO_SMALL));
        edge("Promise 12", words, "a PAGE too large", () ->
            dueEach("stick", p -> coded(4, 4).stick(p, 0, 0, 0), UNKNOWN, tooLarge(4)));
        edge("Promise 12", words, "a WORD too small", () ->
            dueEach("stick", w -> coded(4, 4).stick(1, w, 0, 0), UNKNOWN, TOO_SMALL));
        edge("Promise 12", words, "a WORD too large", () ->
            dueEach("stick", w -> coded(4, 4).stick(1, w, 0, 0), UNKNOWN, tooLarge(4)));
        edge("Promise 12", words, "a BIT too small", () ->
            dueEach("stick", b -> coded(4, 4).stick(0, 0, b, 0), UNKNOWN, TOO_SMALL));
        edge("Promise 12", words, "a BIT too large: the spare PLACE is no BIT", () -> {
            dueEach("stick", b -> coded(1, 4).stick(0, 0, b, 0), UNKNOWN, tooLarge(5));
            dueEach("stick", b -> coded(14, 6).stick(0, 0, b, 0), UNKNOWN, tooLarge(20));
        });
        edge("Promise 12", words, "v too small", () ->
            dueEach("stick", v -> coded(4, 4).stick(0, 0, 0, v), OUTSIDE, TOO_SMALL));
        edge("Promise 12", words, "v too large", () ->
            dueEach("stick", v -> coded(4, 4).stick(0, 0, 0, v), OUTSIDE, tooLarge(3)));
        edge("Promise 12", words, "no CODE", () -> due("stick", new MendedBank().stick(0, 0, 0, 0), UNKNOWN));
        edge("Promise 12", words, "a refusal changes nothing", () ->
            changesNothing(x -> {
                due("a wrong PAGE", x.stick(4, 0, 0, 1), UNKNOWN);
                due("a wrong WORD", x.stick(0, 4, 0, 1), UNKNOWN);
                due("a wrong BIT", x.stick(0, 0, 5, 1), UNKNOWN);
                due("a wrong v", x.stick(0, 0, 0, 3), OUTSIDE);
                due("a wrong v", x.stick(1, 1, 0, -1), OUTSIDE);
            }));
    }

    private static void scrub() {
        String words = "The scrubber goes over n WORDS (0 .. 64): how many of them were MENDED. "
            + "OUTSIDE; STATE: there is no CODE.";
        edge("Promise 13", words, "no WORD", () -> {
            MendedBank x = coded(4, 4);
            x.flip(0, 0, 1);
            due("scrub(0)", x.scrub(0), 0);
            due("no LOOK", x.many(0), 0);
            due("raw", x.raw(0, 0), 1);
            due("next WORD", x.many(9), 0);
        });
        edge("Promise 13", words, "the most WORDS", () -> {
            MendedBank x = coded(4, 4);
            x.stick(0, 0, 0, 1);
            due("scrub(64)", x.scrub(64), 4);
            due("LOOKS", x.many(0), 64);
            due("next PAGE", x.many(8), 0);
            due("next WORD", x.many(9), 0);
        });
        edge("Promise 13", words, "each of them MENDED", () -> {
            MendedBank x = coded(14, 6);
            for (int i = 0; i < 16; i++) {
                x.flip(i / 4, i % 4, 1 << i);
            }
            due("scrub(16)", x.scrub(16), 16);
            due("scrub(16)", x.scrub(16), 0);
        });
        edge("Promise 13", words, "FOUND ones are not MENDED", () -> {
            MendedBank x = coded(4, 4);
            x.flip(0, 0, 3);
            x.flip(0, 1, 4);
            due("scrub(2)", x.scrub(2), 1);
        });
        edge("Promise 13", words, "n too small", () -> dueEach("scrub", coded(4, 4)::scrub, OUTSIDE, TOO_SMALL));
        edge("Promise 13", words, "n too large", () -> dueEach("scrub", coded(4, 4)::scrub, OUTSIDE, tooLarge(65)));
        edge("Promise 13", words, "no CODE", () -> {
            dueEach("scrub", new MendedBank()::scrub, STATE, 0, 1, 64);
        });
        edge("Promise 13", words, "a refusal changes nothing", () ->
            changesNothing(x -> {
                due("n too small", x.scrub(-1), OUTSIDE);
                due("n too large", x.scrub(65), OUTSIDE);
            }));
        edge("Promise 13", words, "a refusal without a CODE leaves the scrubber where it was", () -> {
            MendedBank x = new MendedBank();
            due("scrub(3)", x.scrub(3), STATE);
            x.code(4, 4);
            due("next WORD", x.many(9), 0);
            due("LOOKS", x.many(0), 0);
        });
    }

    private static void look() {
        String words = "Of the latest LOOK: 0 0 CLEAN, 1 MENDED, 2 FOUND; 1 the BIT that was wrong "
            + "(NONE: it was not MENDED); 2 whether it led to a SWAP (1, 0); 3 whether a FRAME was RETIRED by it (1, 0); "
            + "4 its PAGE, 5 its WORD; NONE: there was none since code(). OUTSIDE.";
        edge("Promise 14", words, "none ahead of code()", () ->
            dueLook(new MendedBank(), NONE, NONE, NONE, NONE, NONE, NONE));
        edge("Promise 14", words, "none since code()", () ->
            dueLook(coded(4, 4), NONE, NONE, NONE, NONE, NONE, NONE));
        edge("Promise 14", words, "none since code() anew", () -> {
            MendedBank x = worn();
            wear(x, 3, 1, 4, 1);
            dueLook(x, 1, 4, 0, 0, 3, 1);
            x.code(1, 4);
            dueLook(x, NONE, NONE, NONE, NONE, NONE, NONE);
        });
        edge("Promise 14", words, "a CLEAN one: no BIT was wrong", () -> {
            MendedBank x = coded(4, 4);
            x.read(0, 0);
            dueLook(x, 0, NONE, 0, 0, 0, 0);
        });
        edge("Promise 14", words, "a CLEAN one behind a MENDED one", () -> {
            MendedBank x = coded(4, 4);
            x.flip(3, 3, 1);
            x.read(3, 3);
            x.read(0, 0);
            dueLook(x, 0, NONE, 0, 0, 0, 0);
        });
        edge("Promise 14", words, "a MENDED one: the first and the last BIT", () -> {
            MendedBank x = coded(14, 6);
            x.flip(3, 2, 1);
            x.read(3, 2);
            dueLook(x, 1, 0, 0, 0, 3, 2);
            x.flip(2, 3, 1 << 19);
            x.read(2, 3);
            dueLook(x, 1, 19, 0, 0, 2, 3);
        });
        edge("Promise 14", words, "a FOUND one: no BIT was wrong", () -> {
            MendedBank x = coded(4, 4);
            x.flip(3, 3, 1);
            x.read(3, 3);
            x.flip(3, 3, 2);
            x.read(3, 3);
            dueLook(x, 2, NONE, 0, 0, 3, 3);
        });
        edge("Promise 14", words, "the LOOK that led to a SWAP, the one ahead and the one behind", () -> {
            MendedBank x = coded(4, 4);
            wear(x, 0, 0, 6, 2);
            wear(x, 1, 0, 6, 2);
            x.flip(2, 0, 64);
            for (int i = 0; i < 3; i++) {
                x.read(2, 0);
                dueLook(x, 1, 6, i == 1 ? 1 : 0, 0, 2, 0);
            }
        });
        edge("Promise 14", words, "the LOOK by which a FRAME was RETIRED, the one ahead and the one behind", () -> {
            MendedBank x = coded(4, 4);
            for (int b = 4; b < 7; b++) {
                wear(x, 1, 2, b, 2);
            }
            x.flip(1, 2, 128);
            for (int i = 0; i < 3; i++) {
                x.read(1, 2);
                dueLook(x, 1, 7, 0, i == 1 ? 1 : 0, 1, 2);
            }
        });
        edge("Promise 14", words, "its PAGE, not the FRAME it is in now", () -> {
            MendedBank x = worn();
            x.read(3, 1);
            due("look(4)", x.look(4), 3);
            due("look(5)", x.look(5), 1);
        });
        edge("Promise 14", words, "of a scrub the last WORD", () -> {
            MendedBank x = coded(4, 4);
            x.flip(0, 0, 1);
            x.scrub(2);
            dueLook(x, 0, NONE, 0, 0, 0, 1);
        });
        edge("Promise 14", words, "a read that is refused and a scrub of no WORD are none", () -> {
            MendedBank x = coded(4, 4);
            x.flip(3, 3, 1);
            x.read(3, 3);
            x.read(4, 0);
            x.scrub(0);
            dueLook(x, 1, 0, 0, 0, 3, 3);
        });
        edge("Promise 14", words, "what too small", () -> {
            dueEach("look", worn()::look, OUTSIDE, TOO_SMALL);
            dueEach("look", coded(4, 4)::look, OUTSIDE, TOO_SMALL);
        });
        edge("Promise 14", words, "what too large", () -> {
            dueEach("look", worn()::look, OUTSIDE, tooLarge(6));
            dueEach("look", coded(4, 4)::look, OUTSIDE, tooLarge(6));
        });
        edge("Promise 14", words, "OUTSIDE without a CODE too", () ->
            dueEach("look", new MendedBank()::look, OUTSIDE, -1, 6, MOST, LEAST));
        edge("Promise 14", words, "a refusal changes nothing", () ->
            changesNothing(x -> due("look", x.look(6), OUTSIDE)));
    }

    private static void fate() {
        String words = "What would come of a LOOK, if a set of BITS of a WORD were the other way, as they are now "
            + "(STUCK or not): 0 CLEAN, with the value that write() put there last (0 ahead of any); "
            + "1 MENDED, with that value; 2 FOUND; 3 CLEAN or MENDED, with another value. Nothing is changed. "
            + "UNKNOWN; OUTSIDE.";
        edge("Promise 15", words, "0 ahead of any write", () -> {
            MendedBank x = coded(4, 4);
            due("the empty set", x.fate(3, 3, 0), 0);
            due("one BIT", x.fate(3, 3, 1), 1);
            due("another value", x.fate(3, 3, 113), 3);
        });
        edge("Promise 15", words, "the empty set: the WORD as it is", () -> {
            MendedBank x = coded(4, 4);
            x.write(0, 0, 9);
            due("CLEAN", x.fate(0, 0, 0), 0);
            x.flip(0, 0, 1);
            due("MENDED", x.fate(0, 0, 0), 1);
            x.flip(0, 0, 2);
            due("FOUND", x.fate(0, 0, 0), 2);
            x.flip(0, 0, 4);
            due("MENDED, another value", x.fate(0, 0, 0), 3);
        });
        edge("Promise 15", words, "the full set: CLEAN, another value", () -> {
            MendedBank x = coded(4, 4);
            x.write(0, 0, 9);
            due("fate", x.fate(0, 0, 255), 3);
        });
        edge("Promise 15", words, "MENDED: the first data BIT, the last check BIT", () -> {
            MendedBank x = coded(14, 6);
            x.write(0, 0, 16383);
            due("BIT 0", x.fate(0, 0, 1), 1);
            due("BIT 19", x.fate(0, 0, 1 << 19), 1);
        });
        edge("Promise 15", words, "check BITS alone that look like the first or the last data BIT", () -> {
            due("BIT 0", coded(4, 4).fate(0, 0, 7 << 4), 3);
            due("BIT 10", coded(11, 5).fate(0, 0, 31 << 11), 3);
        });
        edge("Promise 15", words, "a value that was put there last, of two", () -> {
            MendedBank x = coded(4, 4);
            x.write(0, 0, 9);
            x.write(0, 0, 6);
            due("the last", x.fate(0, 0, 0), 0);
            due("the one ahead", x.fate(0, 0, 102 ^ 153), 3);
        });
        edge("Promise 15", words, "a write that is refused puts no value there", () -> {
            MendedBank x = coded(4, 4);
            x.write(0, 0, 9);
            x.write(0, 0, 16);
            due("fate", x.fate(0, 0, 0), 0);
        });
        edge("Promise 15", words, "a value put there, though STUCK CELLS did not take it", () -> {
            MendedBank x = coded(4, 4);
            x.stick(0, 0, 0, 0);
            x.write(0, 0, 15);
            due("MENDED to it", x.fate(0, 0, 0), 1);
            due("STUCK the other way", x.fate(0, 0, 1), 0);
        });
        edge("Promise 15", words, "a mended set that a scrub put there is no write", () -> {
            MendedBank x = coded(4, 4);
            x.flip(0, 0, 7);
            x.scrub(1);
            due("CLEAN, another value", x.fate(0, 0, 0), 3);
        });
        edge("Promise 15", words, "a WORD whose BIT is in the spare PLACE, whose PAGE is in a spare FRAME", () -> {
            MendedBank x = worn();
            x.write(3, 1, 1);
            due("CLEAN", x.fate(3, 1, 0), 0);
            due("MENDED", x.fate(3, 1, 4), 1);
            x.flip(3, 1, 4);
            due("CLEAN", x.fate(3, 1, 4), 0);
        });
        edge("Promise 15", words, "Nothing is changed", () ->
            changesNothing(x -> {
                for (int i = 0; i < 16; i++) {
                    x.fate(i / 4, i % 4, i);
                }
            }));
        edge("Promise 15", words, "it would lead to a swap, but does not", () -> {
            MendedBank x = coded(4, 4);
            wear(x, 0, 0, 0, 2);
            wear(x, 1, 0, 0, 2);
            wear(x, 2, 0, 0, 1);
            due("fate", x.fate(2, 0, 1), 1);
            due("marks", x.marks(2, 0, 0), 1);
            due("place", x.place(0), 0);
            due("LOOKS", x.many(0), 5);
        });
        edge("Promise 15", words, "a PAGE too small", () ->
            dueEach("fate", p -> coded(4, 4).fate(p, 0, 0), UNKNOWN, TOO_SMALL));
        edge("Promise 15", words, "a PAGE too large", () ->
            dueEach("fate", p -> coded(4, 4).fate(p, 0, 0), UNKNOWN, tooLarge(4)));
        edge("Promise 15", words, "a WORD too small", () ->
            dueEach("fate", w -> coded(4, 4).fate(1, w, 0), UNKNOWN, TOO_SMALL));
        edge("Promise 15", words, "a WORD too large", () ->
            dueEach("fate", w -> coded(4, 4).fate(1, w, 0), UNKNOWN, tooLarge(4)));
        edge("Promise 15", words, "a set too small", () ->
            dueEach("fate", set -> coded(4, 4).fate(0, 0, set), OUTSIDE, TOO_SMALL));
        edge("Promise 15", words, "a set too large", () -> {
            dueEach("fate", set -> coded(1, 4).fate(0, 0, set), OUTSIDE, tooLarge(32));
            dueEach("fate", set -> coded(4, 4).fate(0, 0, set), OUTSIDE, tooLarge(256));
            dueEach("fate", set -> coded(14, 6).fate(0, 0, set), OUTSIDE, tooLarge(1 << 20));
        });
        edge("Promise 15", words, "no CODE", () -> due("fate", new MendedBank().fate(0, 0, 0), UNKNOWN));
        edge("Promise 15", words, "a refusal changes nothing", () ->
            changesNothing(x -> {
                due("a wrong PAGE", x.fate(4, 0, 1), UNKNOWN);
                due("a wrong WORD", x.fate(0, 4, 1), UNKNOWN);
                due("a wrong set", x.fate(0, 0, 32), OUTSIDE);
            }));
    }

    private static void marks() {
        String words = "MARKS of the CELL of a FRAME (0 .. 5), WORD, PLACE (0 .. d + c). UNKNOWN.";
        edge("Promise 16", words, "the first and the last FRAME, WORD and PLACE", () -> {
            MendedBank x = coded(14, 6);
            due("the first CELL", x.marks(0, 0, 0), 0);
            due("the last CELL", x.marks(5, 3, 20), 0);
            MendedBank y = coded(1, 4);
            due("the last CELL", y.marks(5, 3, 5), 0);
        });
        edge("Promise 16", words, "one CELL next to another", () -> {
            MendedBank x = coded(14, 6);
            wear(x, 1, 0, 0, 1);
            wear(x, 0, 3, 19, 2);
            due("the first PLACE", x.marks(1, 0, 0), 1);
            due("the last PLACE", x.marks(0, 3, 19), 2);
            due("the spare PLACE between", x.marks(0, 3, 20), 0);
        });
        edge("Promise 16", words, "the spare PLACE, in use", () -> {
            MendedBank x = worn();
            x.write(2, 3, 1);
            wear(x, 2, 3, 2, 3);
            due("marks", x.marks(2, 3, 5), 3);
            due("its old PLACE", x.marks(2, 3, 2), 0);
        });
        edge("Promise 16", words, "the last FRAME, in use", () -> {
            MendedBank x = coded(14, 6);
            for (int b = 0; b < 8; b++) {
                wear(x, 0, 0, b, 2);
            }
            wear(x, 0, 3, 19, 3);
            due("marks", x.marks(5, 3, 19), 3);
        });
        edge("Promise 16", words, "a FRAME too small", () ->
            dueEach("marks", f -> coded(4, 4).marks(f, 0, 0), UNKNOWN, TOO_SMALL));
        edge("Promise 16", words, "a FRAME too large", () ->
            dueEach("marks", f -> coded(4, 4).marks(f, 0, 0), UNKNOWN, tooLarge(6)));
        edge("Promise 16", words, "a WORD too small", () ->
            dueEach("marks", w -> coded(4, 4).marks(1, w, 0), UNKNOWN, TOO_SMALL));
        edge("Promise 16", words, "a WORD too large", () ->
            dueEach("marks", w -> coded(4, 4).marks(1, w, 0), UNKNOWN, tooLarge(4)));
        edge("Promise 16", words, "a PLACE too small", () ->
            dueEach("marks", place -> coded(4, 4).marks(1, 1, place), UNKNOWN, TOO_SMALL));
        edge("Promise 16", words, "a PLACE too large", () -> {
            dueEach("marks", place -> coded(1, 4).marks(0, 0, place), UNKNOWN, tooLarge(6));
            dueEach("marks", place -> coded(4, 4).marks(0, 0, place), UNKNOWN, tooLarge(9));
            dueEach("marks", place -> coded(14, 6).marks(0, 0, place), UNKNOWN, tooLarge(21));
        });
        edge("Promise 16", words, "no CODE", () -> {
            MendedBank x = new MendedBank();
            dueEach("marks", place -> x.marks(0, 0, place), UNKNOWN, 0, 1, -1, MOST);
        });
        edge("Promise 16", words, "a refusal changes nothing", () ->
            changesNothing(x -> due("marks", x.marks(0, 0, 6), UNKNOWN)));
    }

    private static void frame() {
        String words = "The FRAME in which a PAGE is. UNKNOWN.";
        edge("Promise 17", words, "the first and the last PAGE, one moved", () -> {
            MendedBank x = worn();
            due("frame(0)", x.frame(0), 0);
            due("frame(3)", x.frame(3), 4);
        });
        edge("Promise 17", words, "a PAGE too small", () ->
            dueEach("frame", coded(4, 4)::frame, UNKNOWN, TOO_SMALL));
        edge("Promise 17", words, "a PAGE too large, though such a FRAME is there", () ->
            dueEach("frame", worn()::frame, UNKNOWN, tooLarge(4)));
        edge("Promise 17", words, "no CODE", () ->
            dueEach("frame", new MendedBank()::frame, UNKNOWN, 0, 3, -1, 4));
        edge("Promise 17", words, "a refusal changes nothing", () ->
            changesNothing(x -> due("frame", x.frame(4), UNKNOWN)));
    }

    private static void place() {
        String words = "The PLACE in which a BIT is. UNKNOWN.";
        edge("Promise 18", words, "the first and the last BIT, one swapped", () -> {
            MendedBank x = worn();
            due("place(0)", x.place(0), 0);
            due("place(2)", x.place(2), 5);
            due("place(4)", x.place(4), 4);
        });
        edge("Promise 18", words, "a BIT too small", () -> {
            dueEach("place", coded(4, 4)::place, UNKNOWN, TOO_SMALL);
            // While no BIT is swapped, none may be taken for one that is.
            dueEach("place", coded(4, 4)::place, UNKNOWN, NONE);
        });
        edge("Promise 18", words, "a BIT too large, though such a PLACE is there", () -> {
            dueEach("place", coded(4, 4)::place, UNKNOWN, tooLarge(8));
            dueEach("place", worn()::place, UNKNOWN, tooLarge(5));
        });
        edge("Promise 18", words, "no CODE", () ->
            dueEach("place", new MendedBank()::place, UNKNOWN, 0, 1, -1, MOST));
        edge("Promise 18", words, "a refusal changes nothing", () ->
            changesNothing(x -> due("place", x.place(5), UNKNOWN)));
    }

    private static void retired() {
        String words = "The k-th FRAME (from 0) that was RETIRED. UNKNOWN: there was none.";
        edge("Promise 19", words, "none was", () -> {
            MendedBank x = coded(4, 4);
            dueEach("retired", x::retired, UNKNOWN, 0, 1, 2);
        });
        edge("Promise 19", words, "one was: FRAME 0 too", () -> {
            MendedBank x = coded(4, 4);
            for (int b = 0; b < 4; b++) {
                wear(x, 0, 0, b, 2);
            }
            due("retired(0)", x.retired(0), 0);
            due("retired(1)", x.retired(1), UNKNOWN);
        });
        edge("Promise 19", words, "two were, in their order, and there is no third", () -> {
            MendedBank x = coded(14, 6);
            for (int b = 0; b < 4; b++) {
                wear(x, 3, 0, b, 2);
            }
            for (int b = 4; b < 8; b++) {
                wear(x, 1, 0, b, 2);
            }
            for (int b = 8; b < 12; b++) {
                wear(x, 0, 0, b, 2);
            }
            due("retired(0)", x.retired(0), 3);
            due("retired(1)", x.retired(1), 1);
            dueEach("retired", x::retired, UNKNOWN, tooLarge(2));
        });
        edge("Promise 19", words, "k too small", () -> dueEach("retired", worn()::retired, UNKNOWN, TOO_SMALL));
        edge("Promise 19", words, "k too large", () -> dueEach("retired", worn()::retired, UNKNOWN, tooLarge(1)));
        edge("Promise 19", words, "no CODE", () ->
            dueEach("retired", new MendedBank()::retired, UNKNOWN, 0, 1, -1, MOST));
        edge("Promise 19", words, "a refusal changes nothing", () ->
            changesNothing(x -> due("retired", x.retired(1), UNKNOWN)));
    }

    private static void troubled() {
        String words = "The k-th PAGE (from 0), by when a WORD of it was MENDED first since code(). "
            + "UNKNOWN: there is none.";
        edge("Promise 20", words, "none was", () -> {
            MendedBank x = coded(4, 4);
            x.read(0, 0);
            x.flip(1, 0, 3);
            x.read(1, 0);
            dueEach("troubled", x::troubled, UNKNOWN, 0, 1, 3);
        });
        edge("Promise 20", words, "all were, in their order", () -> {
            MendedBank x = coded(4, 4);
            int[] order = {3, 0, 2, 1};
            for (int k = 0; k < 4; k++) {
                due("not yet", x.troubled(k), UNKNOWN);
                wear(x, order[k], k, k, 1);
            }
            for (int k = 0; k < 4; k++) {
                due("troubled(" + k + ")", x.troubled(k), order[k]);
            }
            dueEach("troubled", x::troubled, UNKNOWN, tooLarge(4));
        });
        edge("Promise 20", words, "MENDED a second time, by another WORD", () -> {
            MendedBank x = coded(4, 4);
            wear(x, 2, 0, 0, 2);
            wear(x, 1, 0, 1, 1);
            wear(x, 2, 1, 2, 1);
            due("troubled(0)", x.troubled(0), 2);
            due("troubled(1)", x.troubled(1), 1);
            due("troubled(2)", x.troubled(2), UNKNOWN);
        });
        edge("Promise 20", words, "a PAGE that moved is the same PAGE", () -> {
            MendedBank x = worn();
            int[] wants = {0, 1, 2, 3};
            wear(x, 3, 0, 0, 1);
            for (int k = 0; k < 4; k++) {
                due("troubled(" + k + ")", x.troubled(k), wants[k]);
            }
        });
        edge("Promise 20", words, "by a scrub", () -> {
            MendedBank x = coded(4, 4);
            x.flip(3, 0, 1);
            x.flip(1, 0, 1);
            x.scrub(16);
            due("troubled(0)", x.troubled(0), 1);
            due("troubled(1)", x.troubled(1), 3);
        });
        edge("Promise 20", words, "since code()", () -> {
            MendedBank x = worn();
            x.code(4, 4);
            due("none", x.troubled(0), UNKNOWN);
            wear(x, 2, 0, 0, 1);
            due("troubled(0)", x.troubled(0), 2);
            due("troubled(1)", x.troubled(1), UNKNOWN);
        });
        edge("Promise 20", words, "k too small", () -> dueEach("troubled", worn()::troubled, UNKNOWN, TOO_SMALL));
        edge("Promise 20", words, "k too large", () -> dueEach("troubled", worn()::troubled, UNKNOWN, tooLarge(4)));
        edge("Promise 20", words, "no CODE", () ->
            dueEach("troubled", new MendedBank()::troubled, UNKNOWN, 0, 1, -1, MOST));
        edge("Promise 20", words, "a refusal changes nothing", () ->
            changesNothing(x -> due("troubled", x.troubled(4), UNKNOWN)));
    }

    private static void mends() {
        String words = "How many LOOKS at WORDS of a PAGE were MENDED since code(). UNKNOWN.";
        edge("Promise 21", words, "none was: CLEAN and FOUND ones do not count", () -> {
            MendedBank x = coded(4, 4);
            x.read(0, 0);
            x.flip(0, 1, 3);
            x.read(0, 1);
            due("mends(0)", x.mends(0), 0);
        });
        edge("Promise 21", words, "reads and scrubs, of all its WORDS", () -> {
            MendedBank x = coded(4, 4);
            for (int w = 0; w < 4; w++) {
                x.flip(3, w, 1 << w);
                x.read(3, w);
            }
            x.scrub(16);
            due("mends(3)", x.mends(3), 8);
            due("mends(2)", x.mends(2), 0);
        });
        edge("Promise 21", words, "a PAGE that moved keeps its count", () -> {
            MendedBank x = worn();
            due("mends(3)", x.mends(3), 8);
            wear(x, 3, 0, 0, 1);
            due("mends(3)", x.mends(3), 9);
        });
        edge("Promise 21", words, "since code()", () -> {
            MendedBank x = worn();
            x.code(1, 4);
            due("mends(3)", x.mends(3), 0);
        });
        edge("Promise 21", words, "a PAGE too small", () -> dueEach("mends", coded(4, 4)::mends, UNKNOWN, TOO_SMALL));
        edge("Promise 21", words, "a PAGE too large", () -> dueEach("mends", worn()::mends, UNKNOWN, tooLarge(4)));
        edge("Promise 21", words, "no CODE", () -> dueEach("mends", new MendedBank()::mends, UNKNOWN, 0, 3, -1, 4));
        edge("Promise 21", words, "a refusal changes nothing", () ->
            changesNothing(x -> due("mends", x.mends(4), UNKNOWN)));
    }

    private static void patterns() {
        String words = "PATTERNS of n (0 .. 4) flips: 0 how many there are, 1 MISSED, 2 MENDED rightly, "
            + "3 MENDED wrongly, 4 FOUND ones (the empty one: MENDED rightly). "
            + "OUTSIDE: n, what; STATE: there is no CODE.";
        edge("Promise 22", words, "the empty one: MENDED rightly", () -> {
            int[] wants = {1, 0, 1, 0, 0};
            for (int c = 4; c <= 6; c++) {
                MendedBank x = coded(most(c), c);
                for (int what = 0; what < 5; what++) {
                    due("patterns(0, " + what + ")", x.patterns(0, what), wants[what]);
                }
            }
        });
        edge("Promise 22", words, "the most flips in the narrowest and in the widest WORD", () -> {
            int[] narrow = {5, 1, 0, 0, 4};
            int[] wide = {4845, 169, 0, 0, 4676};
            for (int what = 0; what < 5; what++) {
                due("narrow", coded(1, 4).patterns(4, what), narrow[what]);
                due("wide", coded(14, 6).patterns(4, what), wide[what]);
            }
        });
        edge("Promise 22", words, "flips in the BANK do not matter", () -> {
            MendedBank x = worn();
            due("patterns(1, 2)", x.patterns(1, 2), 5);
            due("patterns(4, 1)", x.patterns(4, 1), 1);
        });
        edge("Promise 22", words, "Nothing comes of asking", () ->
            changesNothing(x -> x.patterns(4, 4)));
        edge("Promise 22", words, "n too small", () ->
            dueEach("patterns", n -> coded(4, 4).patterns(n, 0), OUTSIDE, TOO_SMALL));
        edge("Promise 22", words, "n too large", () -> {
            dueEach("patterns", n -> coded(4, 4).patterns(n, 0), OUTSIDE, tooLarge(5));
            dueEach("patterns", n -> coded(14, 6).patterns(n, 4), OUTSIDE, tooLarge(5));
        });
        edge("Promise 22", words, "what too small", () ->
            dueEach("patterns", what -> coded(4, 4).patterns(0, what), OUTSIDE, TOO_SMALL));
        edge("Promise 22", words, "what too large", () ->
            dueEach("patterns", what -> coded(4, 4).patterns(0, what), OUTSIDE, tooLarge(5)));
        edge("Promise 22", words, "no CODE", () -> {
            due("patterns(0, 0)", new MendedBank().patterns(0, 0), STATE);
            due("patterns(4, 4)", new MendedBank().patterns(4, 4), STATE);
        });
        edge("Promise 22", words, "a refusal changes nothing", () ->
            changesNothing(x -> {
                due("n", x.patterns(5, 0), OUTSIDE);
                due("what", x.patterns(0, 5), OUTSIDE);
            }));
    }

    private static void weight() {
        String words = "How many ones all COLUMNS of data BITS have together. STATE: there is no CODE.";
        edge("Promise 23", words, "the fewest and the most data BITS", () -> {
            for (int c = 4; c <= 6; c++) {
                due("one data BIT", coded(1, c).weight(), 3);
            }
            due("c 4", coded(4, 4).weight(), 12);
            due("c 6", coded(14, 6).weight(), 42);
        });
        edge("Promise 23", words, "the last numbers with 3 ones, then 5 ones", () -> {
            due("code(10, 5)", coded(10, 5).weight(), 30);
            due("code(11, 5)", coded(11, 5).weight(), 35);
        });
        edge("Promise 23", words, "no CODE", () -> due("weight", new MendedBank().weight(), STATE));
        edge("Promise 23", words, "no CODE, behind a code() that was refused", () -> {
            MendedBank x = new MendedBank();
            x.code(12, 5);
            due("weight", x.weight(), STATE);
        });
    }

    private static void safe() {
        String words = "The share of WALKS of t flips (0 .. 12), with the scrubber behind each s (1 .. 12), "
            + "that are SAFE: the upper (which 0), the lower number (1), in least terms. LOST: OUTSIDE.";
        edge("Promise 24", words, "the fewest flips", () -> {
            MendedBank x = new MendedBank();
            for (int s = 1; s <= 12; s++) {
                due("safe(0, s, 0)", x.safe(0, s, 0), 1);
                due("safe(0, s, 1)", x.safe(0, s, 1), 1);
            }
        });
        edge("Promise 24", words, "the most flips, with the fewest and the most between scrubs", () -> {
            MendedBank x = new MendedBank();
            due("safe(12, 1, 0)", x.safe(12, 1, 0), 1);
            due("safe(12, 1, 1)", x.safe(12, 1, 1), 1);
            // 16 * 15 * .. * 5 is 2^12 * 212837625, of 2^48 walks.
            due("safe(12, 12, 0)", x.safe(12, 12, 0), 212837625L);
            due("safe(12, 12, 1)", x.safe(12, 12, 1), 1L << 36);
            // 16 * .. * 6 is 2^12 * 42567525, of 2^44; the twelfth flip is free again.
            due("safe(12, 11, 0)", x.safe(12, 11, 0), 42567525L);
            due("safe(12, 11, 1)", x.safe(12, 11, 1), 1L << 32);
        });
        edge("Promise 24", words, "least terms of long walks", () -> {
            MendedBank x = new MendedBank();
            due("safe(12, 2, 0)", x.safe(12, 2, 0), 11390625L);
            due("safe(12, 2, 1)", x.safe(12, 2, 1), 1L << 24);
            // (16 * 15 * 14)^4 is 2^20 * 105^4, of 2^48.
            due("safe(12, 3, 0)", x.safe(12, 3, 0), 121550625L);
            due("safe(12, 3, 1)", x.safe(12, 3, 1), 1L << 28);
            // 16 * 15 * .. * 6 of 2^44 walks.
            due("safe(11, 11, 0)", x.safe(11, 11, 0), 42567525L);
            due("safe(11, 11, 1)", x.safe(11, 11, 1), 1L << 32);
        });
        edge("Promise 24", words, "least terms: the upper number is odd", () -> {
            MendedBank x = new MendedBank();
            for (int t = 0; t <= 12; t++) {
                for (int s = 1; s <= 12; s++) {
                    due("safe(" + t + ", " + s + ", 0) odd", x.safe(t, s, 0) & 1, 1);
                }
            }
        });
        edge("Promise 24", words, "t too small", () -> {
            MendedBank x = new MendedBank();
            due("-1", x.safe(-1, 1, 0), LOST);
            due("LEAST", x.safe(LEAST, 1, 0), LOST);
        });
        edge("Promise 24", words, "t too large", () -> {
            MendedBank x = new MendedBank();
            due("13", x.safe(13, 1, 0), LOST);
            due("MOST", x.safe(MOST, 1, 0), LOST);
        });
        edge("Promise 24", words, "s too small", () -> {
            MendedBank x = new MendedBank();
            due("0", x.safe(1, 0, 0), LOST);
            due("0, no flips", x.safe(0, 0, 0), LOST);
            due("-1", x.safe(1, -1, 0), LOST);
            due("LEAST", x.safe(1, LEAST, 0), LOST);
        });
        edge("Promise 24", words, "s too large", () -> {
            MendedBank x = new MendedBank();
            due("13", x.safe(1, 13, 0), LOST);
            due("MOST", x.safe(1, MOST, 0), LOST);
        });
        edge("Promise 24", words, "which too small", () -> {
            MendedBank x = new MendedBank();
            due("-1", x.safe(1, 1, -1), LOST);
            due("LEAST", x.safe(1, 1, LEAST), LOST);
        });
        edge("Promise 24", words, "which too large", () -> {
            MendedBank x = new MendedBank();
            due("2", x.safe(1, 1, 2), LOST);
            due("MOST", x.safe(1, 1, MOST), LOST);
        });
        edge("Promise 24", words, "it asks for no CODE, and heeds none", () -> {
            due("no CODE", new MendedBank().safe(2, 2, 0), 15);
            due("a CODE", coded(4, 4).safe(2, 2, 0), 15);
            due("a worn BANK", worn().safe(2, 2, 1), 16);
        });
        edge("Promise 24", words, "a refusal changes nothing", () ->
            changesNothing(x -> {
                due("t", x.safe(13, 1, 0), LOST);
                due("s", x.safe(1, 0, 0), LOST);
                due("which", x.safe(1, 1, 2), LOST);
            }));
    }

    private static void many() {
        String words = "How many: 0 LOOKS, 1 CLEAN, 2 MENDED, 3 FOUND ones, 4 BAD CELLS in FRAMES and PLACES in use, "
            + "5 STUCK CELLS in them, 6 whether the spare PLACE is in use (1, 0), 7 spare FRAMES that are left, "
            + "8 PAGE, 9 WORD that the scrubber comes to next (0 all without a CODE). OUTSIDE.";
        edge("Promise 25", words, "0 all without a CODE", () ->
            dueEach("many", new MendedBank()::many, 0, 0, 1, 2, 3, 4, 5, 6, 7, 8, 9));
        edge("Promise 25", words, "a new BANK", () -> {
            MendedBank x = coded(4, 4);
            dueEach("many", x::many, 0, 0, 1, 2, 3, 4, 5, 6, 8, 9);
            due("many(7)", x.many(7), 2);
        });
        edge("Promise 25", words, "one LOOK of each kind", () -> {
            MendedBank x = coded(4, 4);
            int[] sets = {0, 1, 3};
            for (int kind = 0; kind < 3; kind++) {
                x.flip(0, kind, sets[kind]);
                x.read(0, kind);
                due("LOOKS", x.many(0), kind + 1);
                due("CLEAN", x.many(1), 1);
                due("MENDED", x.many(2), kind > 0 ? 1 : 0);
                due("FOUND", x.many(3), kind > 1 ? 1 : 0);
            }
        });
        edge("Promise 25", words, "BAD CELLS of a FRAME that was retired are not in use", () -> {
            MendedBank x = coded(4, 4);
            for (int b = 0; b < 4; b++) {
                due("many(4)", x.many(4), b);
                wear(x, 0, 0, b, 2);
            }
            due("many(4)", x.many(4), 0);
        });
        edge("Promise 25", words, "BAD CELLS of a PLACE that was swapped are not in use", () -> {
            MendedBank x = coded(4, 4);
            wear(x, 3, 0, 1, 2);
            for (int p = 0; p < 3; p++) {
                due("many(4)", x.many(4), 1 + p);
                wear(x, p, 0, 0, 2);
            }
            due("many(4)", x.many(4), 1);
        });
        edge("Promise 25", words, "BAD CELLS of the spare PLACE and a spare FRAME, in use", () -> {
            MendedBank x = worn();
            due("none", x.many(4), 0);
            wear(x, 3, 0, 2, 2);
            due("PLACE 5 of FRAME 4", x.many(4), 1);
        });
        edge("Promise 25", words, "STUCK CELLS: none, all of a WORD, a swapped one, a retired one", () -> {
            MendedBank x = coded(4, 4);
            due("none", x.many(5), 0);
            for (int b = 0; b < 8; b++) {
                x.stick(3, 3, b, 0);
            }
            due("all of a WORD", x.many(5), 8);
            for (int p = 0; p < 3; p++) {
                wear(x, p, 0, 0, 2);
            }
            due("one swapped", x.many(5), 7);
            x.stick(3, 2, 0, 0);
            due("one in the spare PLACE", x.many(5), 8);
            for (int b = 1; b < 5; b++) {
                wear(x, 3, 0, b, 2);
            }
            due("all of a retired FRAME", x.many(5), 0);
            x.stick(3, 3, 7, 0);
            due("one in a spare FRAME", x.many(5), 1);
        });
        edge("Promise 25", words, "a BAD and a STUCK CELL in each WORD, the first and the last too", () -> {
            MendedBank x = coded(14, 6);
            for (int i = 0; i < 16; i++) {
                due("many(5)", x.many(5), i);
                x.stick(i / 4, i % 4, 19 - i % 2, 0);
            }
            due("many(5)", x.many(5), 16);
            for (int i = 0; i < 12; i++) {
                due("many(4)", x.many(4), i);
                wear(x, i / 3, i % 3, i, 2);
            }
            due("many(4)", x.many(4), 12);
        });
        edge("Promise 25", words, "BAD and STUCK CELLS of the last FRAME, in use", () -> {
            MendedBank x = coded(14, 6);
            for (int b = 0; b < 8; b++) {
                wear(x, 3, 3, b, 2);
            }
            due("frame(3)", x.frame(3), 5);
            x.stick(3, 3, 19, 1);
            x.read(3, 3);
            x.read(3, 3);
            due("many(4)", x.many(4), 1);
            due("many(5)", x.many(5), 1);
        });
        edge("Promise 25", words, "the spare PLACE, in use by its first BIT", () -> {
            MendedBank x = coded(4, 4);
            for (int p = 0; p < 3; p++) {
                due("many(6)", x.many(6), 0);
                wear(x, p, 0, 0, 2);
            }
            due("many(6)", x.many(6), 1);
        });
        edge("Promise 25", words, "spare FRAMES: two, one, none", () -> {
            MendedBank x = coded(14, 6);
            int[] wants = {2, 1, 0, 0};
            for (int round = 0; round < 4; round++) {
                due("many(7)", x.many(7), wants[round]);
                for (int b = 0; b < 4; b++) {
                    wear(x, round, 0, 4 * round + b, 2);
                }
            }
            due("many(7)", x.many(7), 0);
        });
        edge("Promise 25", words, "the scrubber ahead of its wrap and behind it", () -> {
            MendedBank x = coded(4, 4);
            x.scrub(15);
            due("PAGE", x.many(8), 3);
            due("WORD", x.many(9), 3);
            x.scrub(1);
            due("PAGE", x.many(8), 0);
            due("WORD", x.many(9), 0);
        });
        edge("Promise 25", words, "what too small", () -> dueEach("many", coded(4, 4)::many, OUTSIDE, TOO_SMALL));
        edge("Promise 25", words, "what too large", () -> dueEach("many", coded(4, 4)::many, OUTSIDE, tooLarge(10)));
        edge("Promise 25", words, "OUTSIDE without a CODE too", () ->
            dueEach("many", new MendedBank()::many, OUTSIDE, -1, 10, MOST, LEAST));
        edge("Promise 25", words, "a refusal changes nothing", () ->
            changesNothing(x -> due("many", x.many(10), OUTSIDE)));
    }
}
