/** Answers worked out by hand from the document, promise by promise. */
public final class PromisesTest {
    private static final int LEAST = Integer.MIN_VALUE;
    private static final int MOST = Integer.MAX_VALUE;
    private static final int UNKNOWN = -1;
    private static final int OUTSIDE = -2;
    private static final int STATE = -3;
    private static final int FOUND = -5;
    private static final int NONE = -9;
    private static final long LOST = Long.MIN_VALUE;

    private static int wrong = 0;
    private static String promise = "";

    private static void due(String call, long got, long want) {
        if (got != want) {
            wrong++;
            System.out.println(promise + ": " + call + " answered " + got + ", due is " + want);
        }
    }

    private static MendedBank coded(int d, int c) {
        MendedBank x = new MendedBank();
        due("code(" + d + ", " + c + ")", x.code(d, c), d + c);
        return x;
    }

    /** Makes one bit of a word wrong and reads it so often; a flip at the end makes it right again. */
    private static void wear(MendedBank x, int p, int w, int bit, int reads) {
        due("flip", x.flip(p, w, 1 << bit), 1);
        for (int i = 0; i < reads; i++) {
            x.read(p, w);
            due("look(0)", x.look(0), 1);
            due("look(1)", x.look(1), bit);
        }
        due("flip back", x.flip(p, w, 1 << bit), 1);
    }

    private static void dueLook(MendedBank x, int kind, int bit, int swap, int retired, int page, int word) {
        int[] wants = {kind, bit, swap, retired, page, word};
        for (int what = 0; what < wants.length; what++) {
            due("look(" + what + ")", x.look(what), wants[what]);
        }
    }

    public static void main(String[] args) {
        constants();
        whatItIs();
        promise1();
        promise2();
        promises3and4();
        promises5to7();
        promises8to11();
        promise12();
        promise13();
        promise14();
        promise15();
        promises16and18swap();
        swapCountsRetiredFrames();
        promises17and19retire();
        retireTwice();
        swapAheadOfRetiring();
        scrubWritesToTheNewCells();
        promises20and21();
        promise22();
        promise23();
        promise24();
        promise25();
        System.out.println(wrong == 0 ? "all promises as due" : wrong + " answers are not as due");
        if (wrong != 0) {
            System.exit(1);
        }
    }

    private static void constants() {
        promise = "constants";
        due("UNKNOWN", MendedBank.UNKNOWN, UNKNOWN);
        due("OUTSIDE", MendedBank.OUTSIDE, OUTSIDE);
        due("STATE", MendedBank.STATE, STATE);
        due("FOUND", MendedBank.FOUND, FOUND);
        due("NONE", MendedBank.NONE, NONE);
        due("LOST", MendedBank.LOST, LOST);
    }

    private static void promise1() {
        promise = "promise 1";
        MendedBank x = new MendedBank();
        for (int i : new int[] {LEAST, -1, 0, 1, 3, MOST}) {
            due("column", x.column(i), UNKNOWN);
            due("ones", x.ones(i), UNKNOWN);
            due("word", x.word(i), STATE);
            due("syndrome", x.syndrome(i), STATE);
            due("mended", x.mended(i), STATE);
            due("write", x.write(0, 0, i), UNKNOWN);
            due("read", x.read(i, 0), UNKNOWN);
            due("raw", x.raw(0, i), UNKNOWN);
            due("flip", x.flip(0, 0, i), UNKNOWN);
            due("stick", x.stick(0, 0, i, 0), UNKNOWN);
            due("fate", x.fate(0, 0, i), UNKNOWN);
            due("marks", x.marks(0, 0, i), UNKNOWN);
            due("frame", x.frame(i), UNKNOWN);
            due("place", x.place(i), UNKNOWN);
            due("retired", x.retired(i), UNKNOWN);
            due("troubled", x.troubled(i), UNKNOWN);
            due("mends", x.mends(i), UNKNOWN);
        }
        due("scrub(0)", x.scrub(0), STATE);
        due("scrub(64)", x.scrub(64), STATE);
        due("scrub(65)", x.scrub(65), OUTSIDE);
        due("patterns(0, 0)", x.patterns(0, 0), STATE);
        due("patterns(5, 0)", x.patterns(5, 0), OUTSIDE);
        due("weight()", x.weight(), STATE);
        due("safe(1, 1, 1)", x.safe(1, 1, 1), 1);
        dueLook(x, NONE, NONE, NONE, NONE, NONE, NONE);
        for (int what = 0; what <= 9; what++) {
            due("many(" + what + ")", x.many(what), 0);
        }
    }

    private static void promise2() {
        promise = "promise 2";
        int[] most = {4, 11, 14};
        MendedBank x = new MendedBank();
        for (int c = 4; c <= 6; c++) {
            int top = most[c - 4];
            due("code(0, c)", x.code(0, c), OUTSIDE);
            due("code(1, c)", x.code(1, c), 1 + c);
            due("code(top, c)", x.code(top, c), top + c);
            due("code(top + 1, c)", x.code(top + 1, c), OUTSIDE);
            due("code(-1, c)", x.code(-1, c), OUTSIDE);
            due("code(MOST, c)", x.code(MOST, c), OUTSIDE);
            due("code(LEAST, c)", x.code(LEAST, c), OUTSIDE);
        }
        for (int c : new int[] {LEAST, -1, 0, 3, 7, MOST}) {
            due("code(1, c)", x.code(1, c), OUTSIDE);
        }
        due("weight()", x.weight(), 42);
        due("write", x.write(3, 3, 5), 1);
        wear(x, 3, 3, 0, 2);
        x.scrub(5);
        x.stick(0, 0, 0, 1);
        due("code(15, 6)", x.code(15, 6), OUTSIDE);
        due("read after a refusal", x.read(3, 3), 5);
        due("code anew", x.code(14, 6), 20);
        due("raw anew", x.raw(3, 3), 0);
        due("raw anew", x.raw(0, 0), 0);
        due("marks anew", x.marks(3, 3, 0), 0);
        due("mends anew", x.mends(3), 0);
        due("troubled anew", x.troubled(0), UNKNOWN);
        dueLook(x, NONE, NONE, NONE, NONE, NONE, NONE);
        int[] none = {0, 0, 0, 0, 0, 0, 0, 2, 0, 0};
        for (int what = 0; what < none.length; what++) {
            due("many(" + what + ")", x.many(what), none[what]);
        }
        due("flip anew: not stuck", x.flip(0, 0, 1), 1);
        due("fate anew", x.fate(0, 0, 1), 0);
        codeAnewBehindSwapAndRetiring();
    }

    private static void codeAnewBehindSwapAndRetiring() {
        MendedBank x = coded(4, 4);
        x.write(0, 0, 5);
        for (int p = 1; p < 4; p++) {
            wear(x, p, 0, 0, 2);
        }
        for (int bit = 1; bit < 5; bit++) {
            wear(x, 0, 0, bit, 2);
        }
        due("place", x.place(0), 8);
        due("frame", x.frame(0), 4);
        due("code anew", x.code(4, 4), 8);
        due("place anew", x.place(0), 0);
        due("frame anew", x.frame(0), 0);
        due("retired anew", x.retired(0), UNKNOWN);
        due("many(6) anew", x.many(6), 0);
        due("many(7) anew", x.many(7), 2);
        due("the value put last is 0 anew", x.fate(0, 0, 0), 0);
        for (int what = 0; what < 6; what++) {
            due("look anew", x.look(what), NONE);
        }
    }

    private static void promises3and4() {
        promise = "promises 3, 4";
        int[][] columns = {
            {7, 11, 13, 14},
            {7, 11, 28, 13, 14, 19, 21, 26, 22, 25, 31},
            {7, 56, 11, 52, 13, 50, 14, 49, 19, 44, 21, 42, 22, 41}};
        for (int c = 4; c <= 6; c++) {
            int[] data = columns[c - 4];
            for (int d = 1; d <= data.length; d++) {
                MendedBank x = coded(d, c);
                int[] rows = new int[c];
                for (int b = 0; b < d; b++) {
                    due("column(" + b + ")", x.column(b), data[b]);
                    for (int i = 0; i < c; i++) {
                        rows[i] += data[b] >> i & 1;
                    }
                }
                for (int i = 0; i < c; i++) {
                    due("column(" + (d + i) + ")", x.column(d + i), 1 << i);
                    due("ones(" + i + ")", x.ones(i), rows[i]);
                }
                for (int b : new int[] {LEAST, -1, d + c, d + c + 1, MOST}) {
                    due("column(" + b + ")", x.column(b), UNKNOWN);
                }
                for (int i : new int[] {LEAST, -1, c, 6, MOST}) {
                    due("ones(" + i + ")", x.ones(i), UNKNOWN);
                }
            }
        }
    }

    private static void promises5to7() {
        promise = "promises 5, 6, 7";
        MendedBank x = coded(4, 4);
        due("word(1)", x.word(1), 1 | 7 << 4);
        due("word(2)", x.word(2), 2 | 11 << 4);
        due("word(3)", x.word(3), 3 | 12 << 4);
        due("word(15)", x.word(15), 255);
        due("syndrome(0)", x.syndrome(0), 0);
        due("syndrome(1)", x.syndrome(1), 7);
        due("syndrome(6)", x.syndrome(6), 11 ^ 13);
        due("syndrome(128)", x.syndrome(128), 8);
        due("mended(0)", x.mended(0), 0);
        due("mended(255)", x.mended(255), 255);
        due("mended(254)", x.mended(254), 255);
        due("mended(127)", x.mended(127), 255);
        due("mended(8)", x.mended(8), 0);
        due("mended(129)", x.mended(129), FOUND);
        for (int v : new int[] {LEAST, -1, 16, 256, MOST}) {
            due("word(" + v + ")", x.word(v), OUTSIDE);
        }
        for (int set : new int[] {LEAST, -1, 256, MOST}) {
            due("syndrome(" + set + ")", x.syndrome(set), OUTSIDE);
            due("mended(" + set + ")", x.mended(set), OUTSIDE);
        }
        // Of c 6 with one data bit, three wrong bits are found where no column is their sum.
        x = coded(1, 6);
        due("syndrome(14)", x.syndrome(14), 7);
        due("mended(14)", x.mended(14), 15);
        due("mended(112)", x.mended(112), FOUND);
        x = coded(14, 6);
        due("word(16383)", x.word(16383), 16383 | x.syndrome(16383) << 14);
        due("word(16384)", x.word(16384), OUTSIDE);
        due("syndrome", x.syndrome((1 << 20) - 1), 63 ^ x.syndrome(16383));
        due("syndrome", x.syndrome(1 << 20), OUTSIDE);
    }

    private static void promises8to11() {
        promise = "promises 8, 9, 10, 11";
        MendedBank x = coded(4, 4);
        for (int p = 0; p < 4; p++) {
            for (int w = 0; w < 4; w++) {
                due("write", x.write(p, w, 4 * p + w), 1);
            }
        }
        for (int p = 0; p < 4; p++) {
            for (int w = 0; w < 4; w++) {
                due("raw", x.raw(p, w), x.word(4 * p + w));
                due("read", x.read(p, w), 4 * p + w);
            }
        }
        for (int bad : new int[] {LEAST, -1, 4, MOST}) {
            due("write", x.write(bad, 0, 99), UNKNOWN);
            due("write", x.write(0, bad, 99), UNKNOWN);
            due("read", x.read(bad, 0), UNKNOWN);
            due("read", x.read(0, bad), UNKNOWN);
            due("raw", x.raw(bad, 0), UNKNOWN);
            due("raw", x.raw(0, bad), UNKNOWN);
            due("flip", x.flip(bad, 0, -1), UNKNOWN);
            due("flip", x.flip(0, bad, -1), UNKNOWN);
        }
        for (int bad : new int[] {LEAST, -1, 16, MOST}) {
            due("write", x.write(0, 0, bad), OUTSIDE);
        }
        for (int bad : new int[] {LEAST, -1, 256, MOST}) {
            due("flip", x.flip(0, 0, bad), OUTSIDE);
        }
        due("looks", x.many(0), 16);
        due("flip nothing", x.flip(3, 3, 0), 0);
        due("flip all", x.flip(3, 3, 255), 8);
        due("raw", x.raw(3, 3), 0);
        due("flip one data bit", x.flip(3, 3, 4), 1);
        due("read", x.read(3, 3), 0);
        due("raw: reading mends no cell", x.raw(3, 3), 4);
        due("flip one more", x.flip(3, 3, 128), 1);
        due("read", x.read(3, 3), FOUND);
        due("flip a third", x.flip(3, 3, 1), 1);
        due("read: mended wrongly", x.read(3, 3), 5);
        due("raw makes no look", x.raw(3, 3) + x.many(0), 133 + 19);
    }

    private static void promise12() {
        promise = "promise 12";
        MendedBank x = coded(4, 4);
        due("stick at 1", x.stick(0, 0, 7, 1), 0);
        due("raw", x.raw(0, 0), 128);
        due("flip stuck", x.flip(0, 0, 129), 1);
        due("raw", x.raw(0, 0), 129);
        due("write", x.write(0, 0, 0), 1);
        due("raw", x.raw(0, 0), 128);
        due("read", x.read(0, 0), 0);
        due("scrub", x.scrub(1), 1);
        due("raw: stays as it is", x.raw(0, 0), 128);
        due("stick at 0", x.stick(0, 0, 7, 0), 1);
        due("raw", x.raw(0, 0), 0);
        due("many(5)", x.many(5), 1);
        due("loosen", x.stick(0, 0, 7, 2), 0);
        due("many(5)", x.many(5), 0);
        due("flip loose", x.flip(0, 0, 128), 1);
        due("loosen a loose one", x.stick(0, 0, 7, 2), 1);
        due("raw", x.raw(0, 0), 128);
        for (int bad : new int[] {LEAST, -1, 4, MOST}) {
            due("stick", x.stick(bad, 0, 0, 9), UNKNOWN);
            due("stick", x.stick(0, bad, 0, 9), UNKNOWN);
        }
        for (int bad : new int[] {LEAST, -1, 8, MOST}) {
            due("stick", x.stick(0, 0, bad, 9), UNKNOWN);
        }
        for (int bad : new int[] {LEAST, -1, 3, MOST}) {
            due("stick", x.stick(0, 0, 0, bad), OUTSIDE);
        }
        due("many(5)", x.many(5), 0);
    }

    private static void promise13() {
        promise = "promise 13";
        MendedBank x = coded(4, 4);
        for (int bad : new int[] {LEAST, -1, 65, MOST}) {
            due("scrub", x.scrub(bad), OUTSIDE);
        }
        due("scrub(0)", x.scrub(0), 0);
        due("look(0)", x.look(0), NONE);
        x.flip(0, 0, 1);
        x.flip(0, 3, 2);
        x.flip(1, 0, 6);
        x.flip(3, 3, 64);
        due("scrub(3)", x.scrub(3), 1);
        due("many(8)", x.many(8), 0);
        due("many(9)", x.many(9), 3);
        due("scrub(1)", x.scrub(1), 1);
        due("many(8)", x.many(8), 1);
        due("many(9)", x.many(9), 0);
        due("scrub(12)", x.scrub(12), 1);
        due("many(8)", x.many(8), 0);
        due("many(9)", x.many(9), 0);
        due("raw", x.raw(0, 0) + x.raw(0, 3) + x.raw(3, 3), 0);
        due("raw: found is not written", x.raw(1, 0), 6);
        due("scrub(64)", x.scrub(64), 0);
        due("many(3)", x.many(3), 5);
        x.stick(2, 2, 2, 1);
        due("scrub(64)", x.scrub(64), 4);
    }

    private static void promise14() {
        promise = "promise 14";
        MendedBank x = coded(4, 4);
        for (int bad : new int[] {LEAST, -1, 6, MOST}) {
            due("look", x.look(bad), OUTSIDE);
        }
        dueLook(x, NONE, NONE, NONE, NONE, NONE, NONE);
        x.read(2, 1);
        dueLook(x, 0, NONE, 0, 0, 2, 1);
        x.flip(3, 0, 16);
        x.read(3, 0);
        dueLook(x, 1, 4, 0, 0, 3, 0);
        x.flip(3, 0, 1);
        x.read(3, 0);
        dueLook(x, 2, NONE, 0, 0, 3, 0);
        x.raw(1, 1);
        x.fate(1, 1, 1);
        x.read(1, 4);
        x.scrub(0);
        dueLook(x, 2, NONE, 0, 0, 3, 0);
        x.scrub(2);
        dueLook(x, 0, NONE, 0, 0, 0, 1);
    }

    private static void promise15() {
        promise = "promise 15";
        MendedBank x = coded(4, 4);
        due("fate ahead of a write", x.fate(0, 0, 0), 0);
        due("fate", x.fate(0, 0, 1), 1);
        due("fate", x.fate(0, 0, 128), 1);
        due("fate", x.fate(0, 0, 3), 2);
        due("fate", x.fate(0, 0, 7), 3);
        due("fate: clean, another value", x.fate(0, 0, 255), 3);
        x.write(0, 0, 15);
        due("fate", x.fate(0, 0, 0), 0);
        due("fate", x.fate(0, 0, 255), 3);
        x.flip(0, 0, 255);
        due("fate: cells as they are now", x.fate(0, 0, 0), 3);
        due("fate", x.fate(0, 0, 255), 0);
        due("fate", x.fate(0, 0, 254), 1);
        x.write(0, 0, 16);
        due("a refused write puts nothing", x.fate(0, 0, 255), 0);
        x.stick(0, 0, 0, 0);
        due("fate turns stuck ones too", x.fate(0, 0, 255), 0);
        due("another word", x.fate(0, 1, 0), 0);
        for (int bad : new int[] {LEAST, -1, 4, MOST}) {
            due("fate", x.fate(bad, 0, -1), UNKNOWN);
            due("fate", x.fate(0, bad, -1), UNKNOWN);
        }
        for (int bad : new int[] {LEAST, -1, 256, MOST}) {
            due("fate", x.fate(0, 0, bad), OUTSIDE);
        }
        due("no look", x.many(0), 0);
        due("no mark", x.marks(0, 0, 0), 0);
        due("nothing changed", x.raw(0, 0), 0);
    }

    private static void promises16and18swap() {
        promise = "promises 16, 18";
        MendedBank x = coded(4, 4);
        for (int bad : new int[] {LEAST, -1, 6, MOST}) {
            due("marks", x.marks(bad, 0, 0), UNKNOWN);
        }
        for (int bad : new int[] {LEAST, -1, 4, MOST}) {
            due("marks", x.marks(0, bad, 0), UNKNOWN);
        }
        for (int bad : new int[] {LEAST, -1, 9, MOST}) {
            due("marks", x.marks(0, 0, bad), UNKNOWN);
        }
        for (int bad : new int[] {LEAST, -1, 8, MOST}) {
            due("place", x.place(bad), UNKNOWN);
        }
        due("marks of the spare cells", x.marks(5, 3, 8), 0);
        x.write(3, 3, 9);
        wear(x, 0, 0, 3, 2);
        wear(x, 0, 1, 3, 1);
        wear(x, 1, 0, 3, 5);
        due("many(4)", x.many(4), 2);
        due("marks", x.marks(0, 0, 3), 2);
        due("marks", x.marks(1, 0, 3), 5);
        x.stick(2, 2, 3, 1);
        x.read(2, 2);
        dueLook(x, 1, 3, 0, 0, 2, 2);
        due("place", x.place(3), 3);
        due("many(6)", x.many(6), 0);
        x.read(2, 2);
        dueLook(x, 1, 3, 1, 0, 2, 2);
        due("place", x.place(3), 8);
        due("place of another", x.place(2), 2);
        due("many(4)", x.many(4), 0);
        due("many(5)", x.many(5), 0);
        due("many(6)", x.many(6), 1);
        due("old marks stay", x.marks(1, 0, 3), 5);
        due("new marks", x.marks(2, 2, 8), 0);
        due("raw: what the cell had", x.raw(2, 2), 8);
        due("raw: of all words", x.raw(3, 3), x.word(9));
        due("flip: not stuck", x.flip(2, 2, 8), 1);
        due("raw", x.raw(2, 2), 0);
        // The spare place is in use: it may wear out, and so may another, and nothing is swapped.
        for (int p = 0; p < 4; p++) {
            wear(x, p, 1, 3, 2);
            wear(x, p, 2, 5, 2);
        }
        due("marks", x.marks(3, 1, 8), 2);
        due("place", x.place(3), 8);
        due("place", x.place(5), 5);
        due("look(2)", x.look(2), 0);
        due("stick in the spare place", x.stick(0, 3, 3, 1), 0);
        due("write", x.write(0, 3, 0), 1);
        due("raw", x.raw(0, 3), 8);
        due("many(5)", x.many(5), 1);
    }

    /** Bad cells of frames that were retired count for the swap of their place. */
    private static void swapCountsRetiredFrames() {
        promise = "swap, of all frames";
        MendedBank x = coded(4, 4);
        wear(x, 0, 0, 0, 2);
        wear(x, 0, 1, 0, 2);
        wear(x, 0, 2, 1, 2);
        wear(x, 0, 3, 1, 2);
        due("frame", x.frame(0), 4);
        due("many(4)", x.many(4), 0);
        wear(x, 2, 0, 0, 1);
        due("place", x.place(0), 0);
        x.flip(2, 0, 1);
        x.read(2, 0);
        dueLook(x, 1, 0, 1, 0, 2, 0);
        due("place", x.place(0), 8);
        due("many(6)", x.many(6), 1);
    }

    private static void promises17and19retire() {
        promise = "promises 17, 19";
        MendedBank x = coded(4, 4);
        for (int bad : new int[] {LEAST, -1, 4, MOST}) {
            due("frame", x.frame(bad), UNKNOWN);
        }
        for (int bad : new int[] {LEAST, -1, 0, 1, 2, MOST}) {
            due("retired", x.retired(bad), UNKNOWN);
        }
        x.write(2, 0, 6);
        x.write(2, 3, 9);
        wear(x, 2, 0, 0, 2);
        wear(x, 2, 0, 1, 2);
        wear(x, 2, 1, 2, 2);
        wear(x, 1, 0, 3, 9);
        due("many(4)", x.many(4), 4);
        due("frame", x.frame(2), 2);
        x.stick(2, 3, 6, 1 - (x.raw(2, 3) >> 6 & 1));
        x.read(2, 3);
        dueLook(x, 1, 6, 0, 0, 2, 3);
        int before = x.raw(2, 3);
        x.read(2, 3);
        dueLook(x, 1, 6, 0, 1, 2, 3);
        due("frame", x.frame(2), 4);
        due("frame", x.frame(1), 1);
        due("retired(0)", x.retired(0), 2);
        due("retired(1)", x.retired(1), UNKNOWN);
        due("many(4)", x.many(4), 1);
        due("many(5)", x.many(5), 0);
        due("many(7)", x.many(7), 1);
        due("raw: what the cell had", x.raw(2, 3), before);
        due("raw", x.raw(2, 0), x.word(6));
        due("fate goes with the page", x.fate(2, 0, 0), 0);
        due("old marks stay", x.marks(2, 0, 0), 2);
        due("new marks", x.marks(4, 0, 0), 0);
        due("flip: not stuck", x.flip(2, 3, 64), 1);
        due("read", x.read(2, 3), 9);
    }

    /** Page 1 goes from frame 1 to 4 and on to 5; then no spare frame is left. */
    private static void retireTwice() {
        promise = "retiring twice";
        MendedBank x = coded(14, 6);
        for (int round = 0; round < 3; round++) {
            for (int w = 0; w < 4; w++) {
                wear(x, 1, w, 4 * round + w, 2);
            }
            due("look(3)", x.look(3), round < 2 ? 1 : 0);
        }
        due("frame", x.frame(1), 5);
        due("retired(0)", x.retired(0), 1);
        due("retired(1)", x.retired(1), 4);
        due("retired(2)", x.retired(2), UNKNOWN);
        due("many(7)", x.many(7), 0);
        due("many(4)", x.many(4), 4);
        due("marks", x.marks(4, 3, 7), 2);
        due("marks", x.marks(5, 0, 8), 2);
    }

    /** The swap takes bad cells of the frame out of use, so that it is not retired. */
    private static void swapAheadOfRetiring() {
        promise = "swap ahead of retiring";
        MendedBank x = coded(4, 4);
        wear(x, 0, 0, 0, 2);
        wear(x, 0, 1, 0, 2);
        wear(x, 0, 0, 1, 2);
        x.flip(0, 2, 1);
        x.read(0, 2);
        x.read(0, 2);
        dueLook(x, 1, 0, 1, 0, 0, 2);
        due("frame", x.frame(0), 0);
        due("many(4)", x.many(4), 1);

        // The fourth bad cell of the frame is that of the place that goes out of use in the same look.
        x = coded(14, 6);
        wear(x, 1, 0, 0, 2);
        wear(x, 2, 0, 0, 2);
        wear(x, 0, 0, 1, 2);
        wear(x, 0, 0, 2, 2);
        wear(x, 0, 0, 3, 2);
        x.flip(0, 2, 1);
        x.read(0, 2);
        x.read(0, 2);
        dueLook(x, 1, 0, 1, 0, 0, 2);
        due("many(4)", x.many(4), 3);
        x.flip(0, 2, 1);
        wear(x, 0, 3, 9, 2);
        dueLook(x, 1, 9, 0, 1, 0, 3);
        due("frame", x.frame(0), 4);
        due("place", x.place(0), 20);
    }

    /** What the scrubber mended goes to where the bits are then, behind a swap or a retiring. */
    private static void scrubWritesToTheNewCells() {
        promise = "scrub behind a swap";
        MendedBank x = coded(4, 4);
        x.write(0, 0, 10);
        wear(x, 3, 0, 0, 2);
        wear(x, 3, 1, 0, 2);
        x.stick(0, 0, 0, 1);
        due("scrub", x.scrub(1), 1);
        dueLook(x, 1, 0, 0, 0, 0, 0);
        due("raw: stuck", x.raw(0, 0), x.word(10) | 1);
        due("scrub round", x.scrub(15), 0);
        due("scrub", x.scrub(1), 1);
        dueLook(x, 1, 0, 1, 0, 0, 0);
        due("raw: in the new cell", x.raw(0, 0), x.word(10));

        promise = "scrub behind a retiring";
        wear(x, 0, 1, 4, 2);
        wear(x, 0, 1, 5, 2);
        wear(x, 0, 1, 6, 2);
        wear(x, 0, 1, 7, 1);
        x.stick(0, 1, 7, 1);
        due("scrub", x.scrub(1), 1);
        dueLook(x, 1, 7, 0, 1, 0, 1);
        due("frame", x.frame(0), 4);
        due("raw: in the new cell", x.raw(0, 1), 0);
        due("marks of the old cell", x.marks(0, 1, 7), 2);
        due("marks of the new cell", x.marks(4, 1, 7), 0);
        due("raw", x.raw(0, 0), x.word(10));
        due("many(8)", x.many(8), 0);
        due("many(9)", x.many(9), 2);
    }

    private static void promises20and21() {
        promise = "promises 20, 21";
        MendedBank x = coded(8, 5);
        wear(x, 3, 0, 0, 1);
        wear(x, 1, 2, 1, 2);
        wear(x, 3, 1, 2, 1);
        x.flip(0, 0, 3);
        x.read(0, 0);
        x.read(2, 0);
        due("troubled(0)", x.troubled(0), 3);
        due("troubled(1)", x.troubled(1), 1);
        due("troubled(2)", x.troubled(2), UNKNOWN);
        due("mends(0)", x.mends(0), 0);
        due("mends(1)", x.mends(1), 2);
        due("mends(2)", x.mends(2), 0);
        due("mends(3)", x.mends(3), 2);
        x.flip(0, 0, 1);
        x.flip(2, 3, 16);
        due("scrub", x.scrub(16), 2);
        due("troubled(2)", x.troubled(2), 0);
        due("troubled(3)", x.troubled(3), 2);
        due("mends(0)", x.mends(0), 1);
        due("mends(2)", x.mends(2), 1);
        for (int bad : new int[] {LEAST, -1, 4, MOST}) {
            due("troubled", x.troubled(bad), UNKNOWN);
            due("mends", x.mends(bad), UNKNOWN);
        }
    }

    private static void promise22() {
        promise = "promise 22";
        MendedBank x = coded(1, 4);
        int[][] wants = {{1, 0, 1, 0, 0}, {5, 0, 5, 0, 0}, {10, 0, 0, 0, 10}, {10, 0, 0, 4, 6}, {5, 1, 0, 0, 4}};
        for (int n = 0; n <= 4; n++) {
            for (int what = 0; what <= 4; what++) {
                due("patterns(" + n + ", " + what + ")", x.patterns(n, what), wants[n][what]);
            }
        }
        for (int bad : new int[] {LEAST, -1, 5, MOST}) {
            due("patterns", x.patterns(bad, 0), OUTSIDE);
            due("patterns", x.patterns(0, bad), OUTSIDE);
        }
        due("code", x.code(14, 6), 20);
        due("patterns(3, 3)", x.patterns(3, 3), 676);
        due("patterns(4, 1)", x.patterns(4, 1), 169);
        due("patterns(4, 4)", x.patterns(4, 4), 4676);
    }

    private static void promise23() {
        promise = "promise 23";
        due("weight()", coded(1, 4).weight(), 3);
        due("weight()", coded(4, 4).weight(), 12);
        due("weight()", coded(10, 5).weight(), 30);
        due("weight()", coded(11, 5).weight(), 35);
        due("weight()", coded(14, 6).weight(), 42);
    }

    private static void dueShare(int t, int s, long upper, long lower) {
        MendedBank x = new MendedBank();
        due("safe(" + t + ", " + s + ", 0)", x.safe(t, s, 0), upper);
        due("safe(" + t + ", " + s + ", 1)", x.safe(t, s, 1), lower);
    }

    private static void promise24() {
        promise = "promise 24";
        for (int s = 1; s <= 12; s++) {
            dueShare(0, s, 1, 1);
            dueShare(1, s, 1, 1);
        }
        dueShare(12, 1, 1, 1);
        dueShare(2, 2, 15, 16);
        dueShare(3, 2, 15, 16);
        dueShare(4, 2, 225, 256);
        dueShare(3, 3, 105, 128);
        dueShare(4, 3, 105, 128);
        dueShare(4, 12, 1365, 2048);
        // 16 * 15 * .. * 5 is 2^12 * 212837625, of 2^48 walks.
        dueShare(12, 12, 212837625L, 1L << 36);
        MendedBank x = coded(4, 4);
        due("safe with a code", x.safe(2, 2, 0), 15);
        for (int bad : new int[] {LEAST, -1, 13, MOST}) {
            due("safe", x.safe(bad, 1, 0), LOST);
            due("safe", x.safe(1, bad, 0), LOST);
            due("safe", x.safe(1, 1, bad), LOST);
        }
        due("safe(1, 0, 0)", x.safe(1, 0, 0), LOST);
        due("safe(1, 1, 2)", x.safe(1, 1, 2), LOST);
    }

    private static void promise25() {
        promise = "promise 25";
        MendedBank x = coded(4, 4);
        for (int bad : new int[] {LEAST, -1, 10, MOST}) {
            due("many", x.many(bad), OUTSIDE);
        }
        x.read(0, 0);
        wear(x, 1, 1, 1, 2);
        x.flip(2, 2, 3);
        x.read(2, 2);
        x.read(2, 2);
        x.read(2, 2);
        x.stick(3, 3, 0, 0);
        x.stick(3, 3, 1, 0);
        x.scrub(7);
        int[] wants = {13, 8, 2, 3, 1, 2, 0, 2, 1, 3};
        for (int what = 0; what < wants.length; what++) {
            due("many(" + what + ")", x.many(what), wants[what]);
        }
    }

    /** The first lines of the document, for each code that there is. */
    private static void whatItIs() {
        promise = "What it is";
        for (int c = 4; c <= 6; c++) {
            for (int d = 1; d <= (c == 4 ? 4 : c == 5 ? 11 : 14); d++) {
                MendedBank x = coded(d, c);
                for (int b = 0; b < d + c; b++) {
                    due("ones of column(" + b + ")", Integer.bitCount(x.column(b)) % 2, 1);
                }
                due("one wrong bit mended", x.patterns(1, 2), d + c);
                due("two found", x.patterns(2, 4), (d + c) * (d + c - 1) / 2);
            }
        }
    }
}
