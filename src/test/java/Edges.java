import java.io.IOException;
import java.nio.file.Files;
import java.nio.file.Path;
import java.util.ArrayList;
import java.util.HashSet;
import java.util.List;
import java.util.Set;
import java.util.function.Consumer;
import java.util.function.IntUnaryOperator;

/** What the tests of boundary cases share: each is told with the sentence of the document that it holds the class to. */
abstract class Edges {
    static final int LEAST = Integer.MIN_VALUE;
    static final int MOST = Integer.MAX_VALUE;
    static final int UNKNOWN = -1;
    static final int OUTSIDE = -2;
    static final int STATE = -3;
    static final int FOUND = -5;
    static final int NONE = -9;
    static final long LOST = Long.MIN_VALUE;
    static final int[] TOO_SMALL = {-1, -2, LEAST};

    private static final Path DOCUMENT = Path.of("../shared/DOC.md");

    private static final Set<String> told = new HashSet<>();
    private static String document = null;
    private static String edge = "";
    private static int wrong = 0;

    /** One test: where the sentence stands, its words, the case it is tested in. */
    static void edge(String where, String words, String name, Runnable test) {
        edge = where + ": " + name;
        if (!told.add(edge)) {
            fail("there are two tests of this name");
        }
        if (!squeezed(document()).contains(squeezed(words))) {
            fail("the document does not say \"" + words + "\"");
        }
        try {
            test.run();
        } catch (RuntimeException | Error thrown) {
            fail("threw " + thrown);
        }
    }

    private static String document() {
        if (document == null) {
            try {
                document = Files.readString(DOCUMENT);
            } catch (IOException missing) {
                document = "";
                fail("there is no document at " + DOCUMENT);
            }
        }
        return document;
    }

    private static String squeezed(String text) {
        return text.replaceAll("\\s+", " ");
    }

    private static void fail(String how) {
        wrong++;
        System.out.println(edge + ": " + how);
    }

    static void end() {
        System.out.println(told.size() + " boundary cases, " + wrong + " answers are not as due");
        if (wrong != 0) {
            System.exit(1);
        }
    }

    static void due(String call, long got, long want) {
        if (got != want) {
            fail(call + " answered " + got + ", due is " + want);
        }
    }

    static void dueEach(String call, IntUnaryOperator ask, int want, int... numbers) {
        for (int number : numbers) {
            due(call + " of " + number, ask.applyAsInt(number), want);
        }
    }

    /** The numbers from the first that is too large up. */
    static int[] tooLarge(int first) {
        return new int[] {first, first + 1, MOST};
    }

    static int most(int c) {
        return c == 4 ? 4 : c == 5 ? 11 : 14;
    }

    static MendedBank coded(int d, int c) {
        MendedBank x = new MendedBank();
        due("code(" + d + ", " + c + ")", x.code(d, c), d + c);
        return x;
    }

    /** Makes one bit of a word wrong, reads the word so often, and makes the bit right again. */
    static void wear(MendedBank x, int p, int w, int bit, int reads) {
        x.flip(p, w, 1 << bit);
        for (int i = 0; i < reads; i++) {
            x.read(p, w);
        }
        x.flip(p, w, 1 << bit);
    }

    static void dueLook(MendedBank x, int... wants) {
        for (int what = 0; what < wants.length; what++) {
            due("look(" + what + ")", x.look(what), wants[what]);
        }
    }

    static int allMarks(MendedBank x, int places) {
        int sum = 0;
        for (int f = 0; f < 6; f++) {
            for (int w = 0; w < 4; w++) {
                for (int place = 0; place < places; place++) {
                    sum += x.marks(f, w, place);
                }
            }
        }
        return sum;
    }

    /** A bank of five bits in which BIT 2 was swapped and PAGE 3 moved, with stuck and flipped cells. */
    static MendedBank worn() {
        MendedBank x = coded(1, 4);
        for (int i = 0; i < 16; i++) {
            x.write(i / 4, i % 4, i % 2);
        }
        for (int p = 0; p < 3; p++) {
            wear(x, p, 0, 2, 2);
        }
        for (int w = 0; w < 4; w++) {
            wear(x, 3, w, 1, 2);
        }
        x.stick(1, 1, 0, 0);
        x.stick(3, 2, 4, 1);
        x.flip(2, 2, 3);
        x.scrub(7);
        return x;
    }

    /** A call that is refused leaves a worn bank as one that it was not made on. */
    static void changesNothing(Consumer<MendedBank> refused) {
        MendedBank touched = worn();
        refused.accept(touched);
        List<String> got = everything(touched);
        List<String> want = everything(worn());
        for (int i = 0; i < want.size(); i++) {
            if (!got.get(i).equals(want.get(i))) {
                fail("behind the refusal " + got.get(i) + ", due is " + want.get(i));
            }
        }
    }

    /** All there is to ask of a worn bank; the flips at the end tell which cells are stuck. */
    private static List<String> everything(MendedBank x) {
        List<String> all = new ArrayList<>();
        for (int i = 0; i < 10; i++) {
            all.add("many(" + i + ") " + x.many(i));
            all.add("look(" + i + ") " + x.look(i));
        }
        for (int i = 0; i < 5; i++) {
            all.add("frame(" + i + ") " + x.frame(i) + ", mends " + x.mends(i));
            all.add("retired(" + i + ") " + x.retired(i) + ", troubled " + x.troubled(i));
            all.add("column(" + i + ") " + x.column(i) + ", place " + x.place(i) + ", ones " + x.ones(i));
        }
        for (int i = 0; i < 6 * 4 * 6; i++) {
            all.add("marks of cell " + i + " " + x.marks(i / 24, i / 6 % 4, i % 6));
        }
        for (int i = 0; i < 16; i++) {
            String name = "word " + i % 4 + " of page " + i / 4;
            all.add(name + " raw " + x.raw(i / 4, i % 4) + ", fate " + x.fate(i / 4, i % 4, 0));
            all.add(name + " flips " + x.flip(i / 4, i % 4, 31));
        }
        return all;
    }
}
