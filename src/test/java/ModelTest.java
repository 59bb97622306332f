import java.math.BigInteger;
import java.util.ArrayList;
import java.util.Arrays;
import java.util.Comparator;
import java.util.List;
import java.util.Random;
import java.util.stream.Collectors;
import java.util.stream.IntStream;

/** Long runs of calls, against a second telling of the document that goes cell by cell. */
public final class ModelTest {
    private static final int RUNS = 3000;
    private static final int CALLS = 300;

    private static int wrong = 0;
    private static long swaps = 0;
    private static long retirings = 0;
    private static long secondRetirings = 0;
    private static long marksInSparePlace = 0;
    private static long spared = 0;

    /** One cell of the bank. */
    private static final class Cell {
        int value;
        boolean stuck;
        int marks;

        void become(int v) {
            if (!stuck) {
                value = v;
            }
        }

        void renewFrom(Cell other) {
            value = other.value;
            stuck = false;
            marks = 0;
        }

        boolean bad() {
            return marks >= 2;
        }
    }

    /** The document once more, as plain as may be. */
    private static final class Model {
        int d, c, n;
        int[] column;
        Cell[][][] cell;
        int[] frameOf, placeOf;
        int[][] put;
        List<Integer> retired = new ArrayList<>();
        List<Integer> troubled = new ArrayList<>();
        int[] mends;
        int[] kinds;
        int[] latest;
        int scrubber;
        int[][] patternCounts;

        int code(int d, int c) {
            if (c < 4 || c > 6 || d < 1 || d > (c == 4 ? 4 : c == 5 ? 11 : 14)) return -2;
            this.d = d;
            this.c = c;
            n = d + c;
            column = columns(d, c);
            cell = new Cell[6][4][n + 1];
            for (Cell[][] words : cell) for (Cell[] places : words) Arrays.setAll(places, i -> new Cell());
            frameOf = new int[] {0, 1, 2, 3};
            placeOf = IntStream.range(0, n).toArray();
            put = new int[4][4];
            retired.clear();
            troubled.clear();
            mends = new int[4];
            kinds = new int[3];
            latest = null;
            scrubber = 0;
            patternCounts = null;
            return n;
        }

        static int rowOnes(List<Integer> columns, int row) {
            return (int) columns.stream().filter(x -> (x >> row & 1) == 1).count();
        }

        static int fullest(List<Integer> columns, int extra, int c) {
            List<Integer> all = new ArrayList<>(columns);
            all.add(extra);
            return IntStream.range(0, c).map(row -> rowOnes(all, row)).max().getAsInt();
        }

        static int[] columns(int d, int c) {
            List<Integer> chosen = new ArrayList<>();
            for (int b = 0; b < d; b++) {
                List<Integer> open = IntStream.range(0, 1 << c).boxed()
                    .filter(x -> Integer.bitCount(x) == 3 || Integer.bitCount(x) == 5)
                    .filter(x -> !chosen.contains(x)).collect(Collectors.toList());
                Comparator<Integer> byOnes = Comparator.comparing(x -> Integer.bitCount(x));
                chosen.add(open.stream().min(byOnes.thenComparing(x -> fullest(chosen, x, c))
                    .thenComparing(x -> x)).get());
            }
            for (int i = 0; i < c; i++) chosen.add(1 << i);
            return chosen.stream().mapToInt(x -> x).toArray();
        }

        boolean none() {
            return column == null;
        }

        boolean page(int p) {
            return !none() && p >= 0 && p < 4;
        }

        boolean word(int p, int w) {
            return page(p) && w >= 0 && w < 4;
        }

        boolean bit(int b) {
            return !none() && b >= 0 && b < n;
        }

        boolean set(int s) {
            return s >= 0 && s < Math.pow(2, n);
        }

        boolean value(int v) {
            return v >= 0 && v < Math.pow(2, d);
        }

        int syndrome(int s) {
            return IntStream.range(0, n).filter(b -> (s >> b & 1) == 1).map(b -> column[b]).reduce(0, (x, y) -> x ^ y);
        }

        int wrongBit(int s) {
            int y = syndrome(s);
            for (int b = 0; b < n; b++) if (column[b] == y) return b;
            return -1;
        }

        int mended(int s) {
            if (syndrome(s) == 0) return s;
            int b = wrongBit(s);
            return b < 0 ? -5 : s ^ 1 << b;
        }

        int wordOf(int v) {
            for (int check = 0; ; check++) if (syndrome(v | check << d) == 0) return v | check << d;
        }

        Cell at(int p, int w, int b) {
            return cell[frameOf[p]][w][placeOf[b]];
        }

        int bits(int p, int w) {
            int s = 0;
            for (int b = 0; b < n; b++) s |= at(p, w, b).value << b;
            return s;
        }

        void putBits(int p, int w, int s) {
            for (int b = 0; b < n; b++) at(p, w, b).become(s >> b & 1);
        }

        boolean spareInUse() {
            return IntStream.of(placeOf).anyMatch(x -> x == n);
        }

        int[] lookAt(int p, int w) {
            int s = bits(p, w);
            int m = mended(s);
            int kind = m == s ? 0 : m == -5 ? 2 : 1;
            kinds[kind]++;
            latest = new int[] {kind, -9, 0, 0, p, w};
            if (kind != 1) return new int[] {kind, m};
            int b = wrongBit(s);
            latest[1] = b;
            if (mends[p]++ == 0) troubled.add(p);
            at(p, w, b).marks++;
            if (placeOf[b] == n) marksInSparePlace++;
            boolean crowded = badInFrame(frameOf[p]) >= 4 && retired.size() < 2;
            swap(b);
            retire(p);
            if (crowded && latest[3] == 0) spared++;
            return new int[] {kind, m};
        }

        int badInFrame(int f) {
            int bad = 0;
            for (int w = 0; w < 4; w++) for (int place : placeOf) if (cell[f][w][place].bad()) bad++;
            return bad;
        }

        void swap(int b) {
            int place = placeOf[b];
            int bad = 0;
            for (Cell[][] words : cell) for (Cell[] places : words) if (places[place].bad()) bad++;
            if (place == n || spareInUse() || bad < 3) return;
            for (Cell[][] words : cell) for (Cell[] places : words) places[n].renewFrom(places[place]);
            placeOf[b] = n;
            latest[2] = 1;
            swaps++;
        }

        void retire(int p) {
            int old = frameOf[p];
            if (badInFrame(old) < 4 || retired.size() == 2) return;
            int spare = 4 + retired.size();
            for (int w = 0; w < 4; w++) for (int i = 0; i <= n; i++) cell[spare][w][i].renewFrom(cell[old][w][i]);
            frameOf[p] = spare;
            retired.add(old);
            latest[3] = 1;
            retirings++;
            if (old == 4) secondRetirings++;
        }

        int write(int p, int w, int v) {
            if (!word(p, w)) return -1;
            if (!value(v)) return -2;
            put[p][w] = v;
            putBits(p, w, wordOf(v));
            return 1;
        }

        int read(int p, int w) {
            if (!word(p, w)) return -1;
            int[] got = lookAt(p, w);
            return got[0] == 2 ? -5 : got[1] % (1 << d);
        }

        int flip(int p, int w, int s) {
            if (!word(p, w)) return -1;
            if (!set(s)) return -2;
            int turned = 0;
            for (int b = 0; b < n; b++) {
                Cell x = at(p, w, b);
                if ((s >> b & 1) == 1 && !x.stuck) {
                    x.value = 1 - x.value;
                    turned++;
                }
            }
            return turned;
        }

        int stick(int p, int w, int b, int v) {
            if (!word(p, w) || !bit(b)) return -1;
            if (v < 0 || v > 2) return -2;
            Cell x = at(p, w, b);
            int had = x.value;
            x.stuck = v != 2;
            if (v != 2) x.value = v;
            return had;
        }

        int scrub(int count) {
            if (count < 0 || count > 64) return -2;
            if (none()) return -3;
            int mendedWords = 0;
            for (int i = 0; i < count; i++) {
                int p = scrubber / 4;
                int w = scrubber % 4;
                scrubber = (scrubber + 1) % 16;
                int[] got = lookAt(p, w);
                if (got[0] == 1) {
                    mendedWords++;
                    putBits(p, w, got[1]);
                }
            }
            return mendedWords;
        }

        int fate(int p, int w, int s) {
            if (!word(p, w)) return -1;
            if (!set(s)) return -2;
            int now = bits(p, w) ^ s;
            int m = mended(now);
            if (m == -5) return 2;
            if (m % (1 << d) != put[p][w]) return 3;
            return m == now ? 0 : 1;
        }

        int patterns(int size, int what) {
            if (size < 0 || size > 4 || what < 0 || what > 4) return -2;
            if (none()) return -3;
            if (patternCounts == null) {
                patternCounts = new int[5][5];
                for (int s = 0; s < 1 << n; s++) {
                    int k = Integer.bitCount(s);
                    if (k > 4) continue;
                    int m = mended(s);
                    int kind = k == 0 ? 2 : m == -5 ? 4 : m == s ? 1 : m == 0 ? 2 : 3;
                    patternCounts[k][0]++;
                    patternCounts[k][kind]++;
                }
            }
            return patternCounts[size][what];
        }

        int many(int what) {
            if (what < 0 || what > 9) return -2;
            if (none()) return 0;
            switch (what) {
                case 0: return kinds[0] + kinds[1] + kinds[2];
                case 1: case 2: case 3: return kinds[what - 1];
                case 4: return IntStream.of(frameOf).map(this::badInFrame).sum();
                case 5: return (int) IntStream.range(0, 16).mapToLong(i -> IntStream.range(0, n)
                    .filter(b -> at(i / 4, i % 4, b).stuck).count()).sum();
                case 6: return spareInUse() ? 1 : 0;
                case 7: return 2 - retired.size();
                case 8: return scrubber / 4;
                default: return scrubber % 4;
            }
        }

        int listed(List<Integer> list, int k) {
            return k < 0 || k >= list.size() ? -1 : list.get(k);
        }

        /** Any call by its number, with up to four arguments. */
        int call(int which, int[] a) {
            switch (which) {
                case 0: return code(a[0], a[1]);
                case 1: return bit(a[0]) ? column[a[0]] : -1;
                case 2: return !none() && a[0] >= 0 && a[0] < c ? (int) IntStream.range(0, d)
                    .filter(b -> (column[b] >> a[0] & 1) == 1).count() : -1;
                case 3: return none() ? -3 : value(a[0]) ? wordOf(a[0]) : -2;
                case 4: return none() ? -3 : set(a[0]) ? syndrome(a[0]) : -2;
                case 5: return none() ? -3 : set(a[0]) ? mended(a[0]) : -2;
                case 6: return write(a[0], a[1], a[2]);
                case 7: return read(a[0], a[1]);
                case 8: return word(a[0], a[1]) ? bits(a[0], a[1]) : -1;
                case 9: return flip(a[0], a[1], a[2]);
                case 10: return stick(a[0], a[1], a[2], a[3]);
                case 11: return scrub(a[0]);
                case 12: return a[0] < 0 || a[0] > 5 ? -2 : latest == null ? -9 : latest[a[0]];
                case 13: return fate(a[0], a[1], a[2]);
                case 14: return !none() && a[0] >= 0 && a[0] < 6 && a[1] >= 0 && a[1] < 4 && a[2] >= 0 && a[2] <= n
                    ? cell[a[0]][a[1]][a[2]].marks : -1;
                case 15: return page(a[0]) ? frameOf[a[0]] : -1;
                case 16: return bit(a[0]) ? placeOf[a[0]] : -1;
                case 17: return listed(retired, a[0]);
                case 18: return listed(troubled, a[0]);
                case 19: return page(a[0]) ? mends[a[0]] : -1;
                case 20: return patterns(a[0], a[1]);
                case 21: return none() ? -3 : IntStream.range(0, d).map(b -> Integer.bitCount(column[b])).sum();
                default: return many(a[0]);
            }
        }
    }

    private static final String[] NAMES = {"code", "column", "ones", "word", "syndrome", "mended", "write", "read",
        "raw", "flip", "stick", "scrub", "look", "fate", "marks", "frame", "place", "retired", "troubled", "mends",
        "patterns", "weight", "many"};

    private static int callBank(MendedBank x, int which, int[] a) {
        switch (which) {
            case 0: return x.code(a[0], a[1]);
            case 1: return x.column(a[0]);
            case 2: return x.ones(a[0]);
            case 3: return x.word(a[0]);
            case 4: return x.syndrome(a[0]);
            case 5: return x.mended(a[0]);
            case 6: return x.write(a[0], a[1], a[2]);
            case 7: return x.read(a[0], a[1]);
            case 8: return x.raw(a[0], a[1]);
            case 9: return x.flip(a[0], a[1], a[2]);
            case 10: return x.stick(a[0], a[1], a[2], a[3]);
            case 11: return x.scrub(a[0]);
            case 12: return x.look(a[0]);
            case 13: return x.fate(a[0], a[1], a[2]);
            case 14: return x.marks(a[0], a[1], a[2]);
            case 15: return x.frame(a[0]);
            case 16: return x.place(a[0]);
            case 17: return x.retired(a[0]);
            case 18: return x.troubled(a[0]);
            case 19: return x.mends(a[0]);
            case 20: return x.patterns(a[0], a[1]);
            case 21: return x.weight();
            default: return x.many(a[0]);
        }
    }

    /** A run on one object, with a taste for few pages and few bits, so that cells wear out. */
    private static final class Run {
        final int number;
        final Random random;
        final MendedBank bank = new MendedBank();
        final Model model = new Model();
        final int pages, bits;
        int calls = 0;

        Run(int number) {
            this.number = number;
            random = new Random(number);
            pages = 1 + random.nextInt(4);
            bits = 1 + random.nextInt(6);
        }

        void both(int which, int... args) {
            int[] a = Arrays.copyOf(args, 4);
            calls++;
            int want = model.call(which, a);
            int got = callBank(bank, which, a);
            if (got != want) {
                wrong++;
                if (wrong <= 20) {
                    System.out.println("run " + number + ", call " + calls + ": " + NAMES[which] + Arrays.toString(args)
                        + " answered " + got + ", due is " + want);
                }
            }
        }

        int upTo(int most) {
            switch (random.nextInt(60)) {
                case 0: return random.nextInt();
                case 1: return most + 1;
                case 2: return -1;
                case 3: return most;
                default: return random.nextInt(most + 1);
            }
        }

        int page() {
            return random.nextInt(40) == 0 ? upTo(3) : random.nextInt(pages);
        }

        int someBit() {
            return random.nextInt(4) == 0 ? upTo(model.n - 1) : Math.min(random.nextInt(bits), model.n - 1);
        }

        int someSet() {
            int kind = random.nextInt(10);
            if (kind == 0) return upTo((1 << model.n) - 1);
            int set = 1 << random.nextInt(Math.min(bits, Math.max(1, model.n)));
            if (kind == 1) set ^= 1 << random.nextInt(Math.max(1, model.n));
            return set;
        }

        void newCode() {
            int c = 4 + random.nextInt(3);
            both(0, 1 + random.nextInt(c == 4 ? 4 : c == 5 ? 11 : 14), c);
        }

        /** A bit of a word is turned, the word is looked at so often, and mostly the bit turned back. */
        void wear() {
            int p = page();
            int w = random.nextInt(4);
            int set = 1 << random.nextInt(Math.min(bits, Math.max(1, model.n)));
            both(9, p, w, set);
            for (int i = random.nextInt(4); i >= 0; i--) both(7, p, w);
            both(12, random.nextInt(6));
            both(8, p, w);
            if (random.nextInt(4) > 0) both(9, p, w, set);
        }

        void step() {
            int kind = random.nextInt(100);
            if (kind < 30) wear();
            else if (kind < 40) both(6, page(), upTo(3), upTo((1 << model.d) - 1));
            else if (kind < 45) both(7, page(), upTo(3));
            else if (kind < 50) both(9, page(), upTo(3), someSet());
            else if (kind < 56) both(10, page(), upTo(3), someBit(), upTo(2));
            else if (kind < 64) both(11, random.nextInt(8) == 0 ? upTo(64) : upTo(16));
            else if (kind < 70) both(13, page(), upTo(3), someSet());
            else ask();
        }

        void ask() {
            int which = 1 + random.nextInt(22);
            int big = (1 << model.n) - 1;
            switch (which) {
                case 3: both(3, upTo((1 << model.d) - 1)); break;
                case 4: case 5: both(which, upTo(big)); break;
                case 6: case 7: case 9: case 10: case 11: case 13: both(8, upTo(3), upTo(3)); break;
                case 14: both(14, upTo(5), upTo(3), upTo(model.n)); break;
                case 20: if (model.n < 14) both(20, upTo(4), upTo(4)); break;
                case 21: both(21); break;
                case 1: case 16: both(which, upTo(Math.max(0, model.n - 1))); break;
                case 2: both(2, upTo(5)); break;
                case 8: both(8, page(), upTo(3)); break;
                default: both(which, upTo(which == 12 ? 5 : which == 22 ? 9 : 3));
            }
        }

        void askAll() {
            for (int p = 0; p < 4; p++) for (int w = 0; w < 4; w++) both(8, p, w);
            for (int p = 0; p < 4; p++) {
                both(15, p);
                both(18, p);
                both(19, p);
                both(17, p);
            }
            for (int what = 0; what < 10; what++) both(22, what);
            for (int what = 0; what < 6; what++) both(12, what);
            for (int b = 0; b < model.n; b++) both(16, b);
            for (int f = 0; f < 6; f++) for (int w = 0; w < 4; w++) both(14, f, w, random.nextInt(model.n + 1));
        }

        void go() {
            if (random.nextInt(10) == 0) for (int i = 0; i < 20; i++) ask();
            newCode();
            while (calls < CALLS) {
                step();
                if (random.nextInt(400) == 0) both(0, upTo(14), upTo(6));
            }
            askAll();
        }
    }

    private static void allPatterns() {
        for (int c = 4; c <= 6; c++) {
            for (int d = 1; d <= (c == 4 ? 4 : c == 5 ? 11 : 14); d++) {
                Run run = new Run(-100 * c - d);
                run.both(0, d, c);
                for (int n = 0; n <= 4; n++) for (int what = 0; what <= 4; what++) run.both(20, n, what);
            }
        }
    }

    private static void dueShare(int t, int s, BigInteger upper, BigInteger lower) {
        BigInteger common = upper.gcd(lower);
        MendedBank x = new MendedBank();
        if (x.safe(t, s, 0) != upper.divide(common).longValueExact()
            || x.safe(t, s, 1) != lower.divide(common).longValueExact()) {
            wrong++;
            System.out.println("safe(" + t + ", " + s + ", ..) is not the share due");
        }
    }

    /** Short walks one by one, long ones flip by flip: so many words are still unhit. */
    private static void allShares() {
        for (int s = 1; s <= 12; s++) {
            for (int t = 0; t <= 12; t++) {
                BigInteger upper = BigInteger.ONE;
                for (int i = 0; i < t; i++) upper = upper.multiply(BigInteger.valueOf(16 - i % s));
                dueShare(t, s, upper, BigInteger.valueOf(16).pow(t));
                if (t <= 4) dueShare(t, s, BigInteger.valueOf(safeWalks(t, s)), BigInteger.valueOf(16).pow(t));
            }
        }
    }

    private static int safeWalks(int t, int s) {
        int safe = 0;
        for (int walk = 0; walk < 1 << 4 * t; walk++) {
            boolean[] hit = new boolean[16];
            boolean good = true;
            for (int i = 0; i < t; i++) {
                int word = walk >> 4 * i & 15;
                good &= !hit[word];
                hit[word] = true;
                if ((i + 1) % s == 0) hit = new boolean[16];
            }
            if (good) safe++;
        }
        return safe;
    }

    private static void dueMany(String what, long got) {
        System.out.println(what + ": " + got);
        if (got < 20) {
            wrong++;
            System.out.println("the runs no longer come to enough " + what);
        }
    }

    public static void main(String[] args) {
        for (int i = 0; i < RUNS; i++) new Run(i).go();
        allPatterns();
        allShares();
        dueMany("swaps", swaps);
        dueMany("retirings", retirings);
        dueMany("retirings of a frame that was spare", secondRetirings);
        dueMany("marks in the spare place", marksInSparePlace);
        dueMany("frames that a swap kept from retiring", spared);
        System.out.println(wrong == 0 ? "all runs as the model" : wrong + " answers are not as the model");
        if (wrong != 0) System.exit(1);
    }
}
