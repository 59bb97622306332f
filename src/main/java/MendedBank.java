import java.util.Arrays;

/** A bank of memory words that are kept with check bits; README.md tells how it is used. */
public final class MendedBank {
    public static final int UNKNOWN = -1, OUTSIDE = -2, STATE = -3, FOUND = -5, NONE = -9;
    public static final long LOST = Long.MIN_VALUE;

    private static final int PAGES = 4;
    private static final int WORDS = 4;
    private static final int FRAMES = 6;
    private static final int MOST_SCRUBBED = 64;
    private static final int MOST_FLIPS = 4;

    private static final int LOOK_CLEAN = 0;
    private static final int LOOK_MENDED = 1;
    private static final int LOOK_FOUND = 2;

    private static final int FATE_CLEAN = 0;
    private static final int FATE_MENDED = 1;
    private static final int FATE_FOUND = 2;
    private static final int FATE_OTHER_VALUE = 3;

    private final Code rules;
    private final Bank bank;
    private final FlipTable flips;

    public MendedBank() {
        rules = new Code();
        bank = new Bank(rules);
        flips = new FlipTable(rules);
    }

    // ---- 1 the code

    public int code(int d, int c) {
        if (!Code.allows(d, c)) {
            return OUTSIDE;
        }
        rules.choose(d, c);
        bank.renew();
        flips.forget();
        return rules.width();
    }

    public int column(int b) {
        return rules.hasBit(b) ? rules.columnOf(b) : UNKNOWN;
    }

    public int ones(int i) {
        return rules.hasRow(i) ? rules.onesOfRow(i) : UNKNOWN;
    }

    public int word(int v) {
        if (!rules.stands()) {
            return STATE;
        }
        return rules.hasValue(v) ? rules.wordOf(v) : OUTSIDE;
    }

    public int syndrome(int set) {
        if (!rules.stands()) {
            return STATE;
        }
        return rules.hasSet(set) ? rules.syndromeOf(set) : OUTSIDE;
    }

    public int mended(int set) {
        if (!rules.stands()) {
            return STATE;
        }
        return rules.hasSet(set) ? rules.mend(set) : OUTSIDE;
    }

    // ---- 2 the bank

    public int write(int p, int w, int v) {
        if (!hasWord(p, w)) {
            return UNKNOWN;
        }
        if (!rules.hasValue(v)) {
            return OUTSIDE;
        }
        bank.keep(p, w, v);
        return 1;
    }

    public int read(int p, int w) {
        if (!hasWord(p, w)) {
            return UNKNOWN;
        }
        int set = bank.lookAt(p, w);
        return set == FOUND ? FOUND : rules.valueOf(set);
    }

    public int raw(int p, int w) {
        return hasWord(p, w) ? bank.bitsOf(p, w) : UNKNOWN;
    }

    public int flip(int p, int w, int set) {
        if (!hasWord(p, w)) {
            return UNKNOWN;
        }
        return rules.hasSet(set) ? bank.turn(p, w, set) : OUTSIDE;
    }

    public int stick(int p, int w, int b, int v) {
        if (!hasWord(p, w) || !rules.hasBit(b)) {
            return UNKNOWN;
        }
        if (v < 0 || v > 2) {
            return OUTSIDE;
        }
        return v == 2 ? bank.loosen(p, w, b) : bank.hold(p, w, b, v);
    }

    public int scrub(int n) {
        if (n < 0 || n > MOST_SCRUBBED) {
            return OUTSIDE;
        }
        if (!rules.stands()) {
            return STATE;
        }
        int mendedWords = 0;
        for (int i = 0; i < n; i++) {
            if (bank.scrubNext()) {
                mendedWords++;
            }
        }
        return mendedWords;
    }

    public int look(int what) {
        if (what < 0 || what > 5) {
            return OUTSIDE;
        }
        return bank.log().latest(what);
    }

    public int fate(int p, int w, int set) {
        if (!hasWord(p, w)) {
            return UNKNOWN;
        }
        if (!rules.hasSet(set)) {
            return OUTSIDE;
        }
        int turned = bank.bitsOf(p, w) ^ set;
        int repaired = rules.mend(turned);
        if (repaired == FOUND) {
            return FATE_FOUND;
        }
        if (rules.valueOf(repaired) != bank.keptValue(p, w)) {
            return FATE_OTHER_VALUE;
        }
        return repaired == turned ? FATE_CLEAN : FATE_MENDED;
    }

    public int marks(int frame, int w, int place) {
        boolean known = frame >= 0 && frame < FRAMES && isWord(w) && rules.hasPlace(place);
        return known ? bank.marksOf(frame, w, place) : UNKNOWN;
    }

    public int frame(int p) {
        return hasPage(p) ? bank.frameOf(p) : UNKNOWN;
    }

    public int place(int b) {
        return rules.hasBit(b) ? bank.placeOf(b) : UNKNOWN;
    }

    public int retired(int k) {
        return bank.retiredFrame(k);
    }

    public int troubled(int k) {
        return bank.log().troubledPage(k);
    }

    public int mends(int p) {
        return hasPage(p) ? bank.log().mendsOf(p) : UNKNOWN;
    }

    // ---- 3 what may come

    public int patterns(int n, int what) {
        if (n < 0 || n > MOST_FLIPS || what < 0 || what > 4) {
            return OUTSIDE;
        }
        return rules.stands() ? flips.countOf(n, what) : STATE;
    }

    public int weight() {
        return rules.stands() ? rules.onesOfAllRows() : STATE;
    }

    public long safe(int t, int s, int which) {
        if (t < 0 || t > 12 || s < 1 || s > 12 || which < 0 || which > 1) {
            return LOST;
        }
        long upper = safeWalks(t, s);
        long lower = 1L << (4 * t);
        // All walks together are a power of two, so halving both is all there is to cancel.
        for (int i = 0; i < 4 * t && (upper & 1L) == 0L; i++) {
            upper >>= 1;
            lower >>= 1;
        }
        return which == 0 ? upper : lower;
    }

    public int many(int what) {
        if (what < 0 || what > 9) {
            return OUTSIDE;
        }
        return rules.stands() ? bank.tally(what) : 0;
    }

    private static long safeWalks(int flipCount, int scrubEach) {
        long walks = 1L;
        int hitWords = 0;
        for (int i = 0; i < flipCount; i++) {
            walks *= PAGES * WORDS - hitWords;
            hitWords++;
            if (hitWords == scrubEach) {
                hitWords = 0;
            }
        }
        return walks;
    }

    private static boolean isWord(int w) {
        return w >= 0 && w < WORDS;
    }

    private boolean hasPage(int p) {
        return rules.stands() && p >= 0 && p < PAGES;
    }

    private boolean hasWord(int p, int w) {
        return hasPage(p) && isWord(w);
    }

    /** The columns of all bits, and what they make of a set of bits. */
    private static final class Code {
        private static final int FEWEST_ROWS = 4;
        private static final int MOST_ROWS = 6;
        private static final int MOST_BITS = 20;
        private static final int SYNDROMES = 64;
        private static final int[] MOST_DATA = {4, 11, 14};

        private final int[] columns = new int[MOST_BITS];
        private final int[] rowOnes = new int[MOST_ROWS];
        private final int[] bitByColumn = new int[SYNDROMES];
        private int dataBits;
        private int rows;

        static boolean allows(int d, int c) {
            return c >= FEWEST_ROWS && c <= MOST_ROWS && d >= 1 && d <= MOST_DATA[c - FEWEST_ROWS];
        }

        void choose(int d, int c) {
            dataBits = d;
            rows = c;
            Arrays.fill(rowOnes, 0);
            Arrays.fill(bitByColumn, NONE);
            for (int bit = 0; bit < d; bit++) {
                int column = bestFreeColumn();
                give(bit, column);
                for (int row = 0; row < c; row++) {
                    rowOnes[row] += (column >> row) & 1;
                }
            }
            for (int row = 0; row < c; row++) {
                give(d + row, 1 << row);
            }
        }

        private void give(int bit, int column) {
            columns[bit] = column;
            bitByColumn[column] = bit;
        }

        private int bestFreeColumn() {
            int best = 0;
            int bestOnes = 0;
            int bestFullest = 0;
            for (int column = 1; column < 1 << rows; column++) {
                int ones = Integer.bitCount(column);
                if ((ones != 3 && ones != 5) || bitByColumn[column] != NONE) {
                    continue;
                }
                int fullest = fullestRowWith(column);
                // Columns come in rising order, so of equal ones the least stays.
                if (best == 0 || ones < bestOnes || (ones == bestOnes && fullest < bestFullest)) {
                    best = column;
                    bestOnes = ones;
                    bestFullest = fullest;
                }
            }
            return best;
        }

        private int fullestRowWith(int column) {
            int fullest = 0;
            for (int row = 0; row < rows; row++) {
                fullest = Math.max(fullest, rowOnes[row] + ((column >> row) & 1));
            }
            return fullest;
        }

        boolean stands() {
            return rows > 0;
        }

        int width() {
            return dataBits + rows;
        }

        int allBits() {
            return (1 << width()) - 1;
        }

        boolean hasBit(int bit) {
            return bit >= 0 && bit < width();
        }

        boolean hasRow(int row) {
            return row >= 0 && row < rows;
        }

        boolean hasPlace(int place) {
            return stands() && place >= 0 && place <= width();
        }

        boolean hasValue(int value) {
            return value >= 0 && value < 1 << dataBits;
        }

        boolean hasSet(int set) {
            return set >= 0 && set <= allBits();
        }

        int columnOf(int bit) {
            return columns[bit];
        }

        int onesOfRow(int row) {
            return rowOnes[row];
        }

        int onesOfAllRows() {
            int all = 0;
            for (int row = 0; row < rows; row++) {
                all += rowOnes[row];
            }
            return all;
        }

        int syndromeOf(int set) {
            int sum = 0;
            for (int bit = 0; bit < width(); bit++) {
                if (((set >> bit) & 1) != 0) {
                    sum ^= columns[bit];
                }
            }
            return sum;
        }

        int wordOf(int value) {
            // Check bit i alone has syndrome 2^i, so the value's syndrome names its check bits.
            return value | (syndromeOf(value) << dataBits);
        }

        int valueOf(int set) {
            return set & ((1 << dataBits) - 1);
        }

        /** The bit with this column; NONE if there is none. */
        int bitWithColumn(int column) {
            return bitByColumn[column];
        }

        /** The set itself if clean, as mended if one bit explains it, else FOUND. */
        int mend(int set) {
            int sum = syndromeOf(set);
            if (sum == 0) {
                return set;
            }
            int bit = bitByColumn[sum];
            return bit == NONE ? FOUND : set ^ (1 << bit);
        }
    }

    /** All cells: a row for each word of each frame, and in it sets of places. */
    private static final class Cells {
        private static final int ROWS = FRAMES * WORDS;
        private static final int MOST_PLACES = Code.MOST_BITS + 1;
        private static final int BAD_FROM = 2;

        private final int[] values = new int[ROWS];
        private final int[] stuck = new int[ROWS];
        private final int[] markCounts = new int[ROWS * MOST_PLACES];

        void clear() {
            Arrays.fill(values, 0);
            Arrays.fill(stuck, 0);
            Arrays.fill(markCounts, 0);
        }

        int valuesIn(int row) {
            return values[row];
        }

        /** Puts these ones into the row, in the places told and not stuck. */
        void put(int row, int ones, int places) {
            int open = places & ~stuck[row];
            values[row] = (values[row] & ~open) | (ones & open);
        }

        int turn(int row, int places) {
            int open = places & ~stuck[row];
            values[row] ^= open;
            return Integer.bitCount(open);
        }

        int valueAt(int row, int place) {
            return (values[row] >> place) & 1;
        }

        void setValue(int row, int place, int value) {
            values[row] = (values[row] & ~(1 << place)) | (value << place);
        }

        void hold(int row, int place, int value) {
            setValue(row, place, value);
            stuck[row] |= 1 << place;
        }

        void loosen(int row, int place) {
            stuck[row] &= ~(1 << place);
        }

        void addMark(int row, int place) {
            markCounts[row * MOST_PLACES + place]++;
        }

        int marksAt(int row, int place) {
            return markCounts[row * MOST_PLACES + place];
        }

        private boolean isBad(int row, int place) {
            return marksAt(row, place) >= BAD_FROM;
        }

        private void renewCell(int row, int place, int value) {
            setValue(row, place, value);
            loosen(row, place);
            markCounts[row * MOST_PLACES + place] = 0;
        }

        void copyPlace(int from, int to) {
            for (int row = 0; row < ROWS; row++) {
                renewCell(row, to, valueAt(row, from));
            }
        }

        void copyFrame(int from, int to) {
            for (int word = 0; word < WORDS; word++) {
                int source = from * WORDS + word;
                int target = to * WORDS + word;
                for (int place = 0; place < MOST_PLACES; place++) {
                    renewCell(target, place, valueAt(source, place));
                }
            }
        }

        int badInPlace(int place) {
            int bad = 0;
            for (int row = 0; row < ROWS; row++) {
                if (isBad(row, place)) {
                    bad++;
                }
            }
            return bad;
        }

        int badInFrame(int frame, int places) {
            int bad = 0;
            for (int word = 0; word < WORDS; word++) {
                for (int place = 0; place < MOST_PLACES; place++) {
                    if (((places >> place) & 1) != 0 && isBad(frame * WORDS + word, place)) {
                        bad++;
                    }
                }
            }
            return bad;
        }

        int stuckInFrame(int frame, int places) {
            int held = 0;
            for (int word = 0; word < WORDS; word++) {
                held += Integer.bitCount(stuck[frame * WORDS + word] & places);
            }
            return held;
        }
    }

    /** What looks came to: the latest one, and how many of each kind. */
    private static final class Log {
        private final int[] looksByKind = new int[3];
        private final int[] mendsByPage = new int[PAGES];
        private final int[] troubledPages = new int[PAGES];
        private int troubledCount;
        private int lastKind = NONE;
        private int lastBit = NONE;
        private int lastPage = NONE;
        private int lastWord = NONE;
        private int lastSwap = NONE;
        private int lastRetiring = NONE;

        void clear() {
            Arrays.fill(looksByKind, 0);
            Arrays.fill(mendsByPage, 0);
            troubledCount = 0;
            lastKind = NONE;
            lastBit = NONE;
            lastPage = NONE;
            lastWord = NONE;
            lastSwap = NONE;
            lastRetiring = NONE;
        }

        void noteLook(int kind, int bit, int page, int word) {
            looksByKind[kind]++;
            lastKind = kind;
            lastBit = bit;
            lastPage = page;
            lastWord = word;
            lastSwap = 0;
            lastRetiring = 0;
        }

        void noteMending(int page, boolean swapped, boolean retiring) {
            if (mendsByPage[page] == 0 && troubledCount < PAGES) {
                troubledPages[troubledCount] = page;
                troubledCount++;
            }
            mendsByPage[page]++;
            lastSwap = swapped ? 1 : 0;
            lastRetiring = retiring ? 1 : 0;
        }

        int latest(int what) {
            switch (what) {
                case 0:
                    return lastKind;
                case 1:
                    return lastBit;
                case 2:
                    return lastSwap;
                case 3:
                    return lastRetiring;
                case 4:
                    return lastPage;
                default:
                    return lastWord;
            }
        }

        int troubledPage(int k) {
            return k >= 0 && k < troubledCount ? troubledPages[k] : UNKNOWN;
        }

        int mendsOf(int page) {
            return mendsByPage[page];
        }

        int looksOf(int kind) {
            return looksByKind[kind];
        }

        int allLooks() {
            return looksByKind[LOOK_CLEAN] + looksByKind[LOOK_MENDED] + looksByKind[LOOK_FOUND];
        }
    }

    /** Where pages and bits are now, looks at words, the scrubber, and what bad cells lead to. */
    private static final class Bank {
        private static final int BAD_WORDS_TO_SWAP = 3;
        private static final int BAD_CELLS_TO_RETIRE = 4;

        private final Code rules;
        private final Cells cells = new Cells();
        private final Log history = new Log();
        private final int[] frames = new int[PAGES];
        private final int[] keptValues = new int[PAGES * WORDS];
        private final int[] retiredFrames = new int[FRAMES - PAGES];
        private int retiredCount;
        // The one bit that is in the spare place; NONE while that is not in use.
        private int swappedBit = NONE;
        private int sparePlace;
        private int scrubPage;
        private int scrubWord;

        Bank(Code rules) {
            this.rules = rules;
        }

        void renew() {
            cells.clear();
            history.clear();
            for (int page = 0; page < PAGES; page++) {
                frames[page] = page;
            }
            Arrays.fill(keptValues, 0);
            retiredCount = 0;
            swappedBit = NONE;
            sparePlace = rules.width();
            scrubPage = 0;
            scrubWord = 0;
        }

        Log log() {
            return history;
        }

        int frameOf(int page) {
            return frames[page];
        }

        int placeOf(int bit) {
            return bit == swappedBit ? sparePlace : bit;
        }

        int retiredFrame(int k) {
            return k >= 0 && k < retiredCount ? retiredFrames[k] : UNKNOWN;
        }

        int marksOf(int frame, int word, int place) {
            return cells.marksAt(frame * WORDS + word, place);
        }

        int keptValue(int page, int word) {
            return keptValues[page * WORDS + word];
        }

        void keep(int page, int word, int value) {
            keptValues[page * WORDS + word] = value;
            putBits(page, word, rules.wordOf(value));
        }

        int bitsOf(int page, int word) {
            int places = cells.valuesIn(rowOf(page, word));
            if (swappedBit == NONE) {
                return places & rules.allBits();
            }
            int others = places & rules.allBits() & ~(1 << swappedBit);
            return others | (((places >> sparePlace) & 1) << swappedBit);
        }

        int turn(int page, int word, int set) {
            return cells.turn(rowOf(page, word), placesOf(set));
        }

        /** Sticks the cell of a bit at a value: what it had. */
        int hold(int page, int word, int bit, int value) {
            int row = rowOf(page, word);
            int had = cells.valueAt(row, placeOf(bit));
            cells.hold(row, placeOf(bit), value);
            return had;
        }

        /** Makes the cell of a bit stuck no more: what it had. */
        int loosen(int page, int word, int bit) {
            int row = rowOf(page, word);
            cells.loosen(row, placeOf(bit));
            return cells.valueAt(row, placeOf(bit));
        }

        /** A look at a word: its bits, as mended; or FOUND. */
        int lookAt(int page, int word) {
            int set = bitsOf(page, word);
            int sum = rules.syndromeOf(set);
            if (sum == 0) {
                history.noteLook(LOOK_CLEAN, NONE, page, word);
                return set;
            }
            int bit = rules.bitWithColumn(sum);
            if (bit == NONE) {
                history.noteLook(LOOK_FOUND, NONE, page, word);
                return FOUND;
            }
            history.noteLook(LOOK_MENDED, bit, page, word);
            cells.addMark(rowOf(page, word), placeOf(bit));
            // The swap comes first: it takes bad cells out of use, which may spare the frame.
            boolean swapped = swapIfDue(bit);
            boolean retiring = retireIfDue(page);
            history.noteMending(page, swapped, retiring);
            return set ^ (1 << bit);
        }

        /** Scrubs the word that comes next: whether it was mended. */
        boolean scrubNext() {
            int page = scrubPage;
            int word = scrubWord;
            stepScrubber();
            int set = lookAt(page, word);
            if (history.latest(0) != LOOK_MENDED) {
                return false;
            }
            putBits(page, word, set);
            return true;
        }

        int tally(int what) {
            switch (what) {
                case 0:
                    return history.allLooks();
                case 1:
                    return history.looksOf(LOOK_CLEAN);
                case 2:
                    return history.looksOf(LOOK_MENDED);
                case 3:
                    return history.looksOf(LOOK_FOUND);
                case 4:
                    return badInUse();
                case 5:
                    return stuckInUse();
                case 6:
                    return swappedBit == NONE ? 0 : 1;
                case 7:
                    return spareFramesLeft();
                case 8:
                    return scrubPage;
                default:
                    return scrubWord;
            }
        }

        private int rowOf(int page, int word) {
            return frames[page] * WORDS + word;
        }

        private int placesOf(int set) {
            if (swappedBit == NONE) {
                return set;
            }
            return (set & ~(1 << swappedBit)) | (((set >> swappedBit) & 1) << sparePlace);
        }

        private int placesInUse() {
            return placesOf(rules.allBits());
        }

        private void putBits(int page, int word, int set) {
            cells.put(rowOf(page, word), placesOf(set), placesInUse());
        }

        private boolean swapIfDue(int bit) {
            // While the spare place is not in use no bit can be in it, so this one is not.
            if (swappedBit != NONE || cells.badInPlace(bit) < BAD_WORDS_TO_SWAP) {
                return false;
            }
            cells.copyPlace(bit, sparePlace);
            swappedBit = bit;
            return true;
        }

        private boolean retireIfDue(int page) {
            int old = frames[page];
            if (spareFramesLeft() == 0 || cells.badInFrame(old, placesInUse()) < BAD_CELLS_TO_RETIRE) {
                return false;
            }
            // Spare frames are used from the least on, one for each that was retired.
            int spare = PAGES + retiredCount;
            cells.copyFrame(old, spare);
            frames[page] = spare;
            retiredFrames[retiredCount] = old;
            retiredCount++;
            return true;
        }

        private int spareFramesLeft() {
            return FRAMES - PAGES - retiredCount;
        }

        private int badInUse() {
            int bad = 0;
            for (int page = 0; page < PAGES; page++) {
                bad += cells.badInFrame(frames[page], placesInUse());
            }
            return bad;
        }

        private int stuckInUse() {
            int held = 0;
            for (int page = 0; page < PAGES; page++) {
                held += cells.stuckInFrame(frames[page], placesInUse());
            }
            return held;
        }

        private void stepScrubber() {
            scrubWord++;
            if (scrubWord == WORDS) {
                scrubWord = 0;
                scrubPage = scrubPage + 1 < PAGES ? scrubPage + 1 : 0;
            }
        }
    }

    /** How many patterns of flips there are of each size and syndrome. */
    private static final class FlipTable {
        private static final int SYNDROMES = Code.SYNDROMES;

        private final Code rules;
        private final int[] counts = new int[(MOST_FLIPS + 1) * SYNDROMES];
        private boolean counted;

        FlipTable(Code rules) {
            this.rules = rules;
        }

        void forget() {
            counted = false;
        }

        int countOf(int n, int what) {
            if (!counted) {
                countAll();
                counted = true;
            }
            switch (what) {
                case 0:
                    return allOf(n);
                case 1:
                    return missedOf(n);
                case 2:
                    return rightlyMendedOf(n);
                case 3:
                    return mendedOf(n) - rightlyMendedOf(n);
                default:
                    return allOf(n) - missedOf(n) - mendedOf(n);
            }
        }

        // A pattern without a bit or with it: so each bit adds the patterns that it completes.
        private void countAll() {
            Arrays.fill(counts, 0);
            counts[0] = 1;
            for (int bit = 0; bit < rules.width(); bit++) {
                int column = rules.columnOf(bit);
                // From the largest size down, lest a bit be taken twice.
                for (int n = MOST_FLIPS; n > 0; n--) {
                    for (int sum = 0; sum < SYNDROMES; sum++) {
                        counts[n * SYNDROMES + (sum ^ column)] += counts[(n - 1) * SYNDROMES + sum];
                    }
                }
            }
        }

        private int allOf(int n) {
            int all = 0;
            for (int sum = 0; sum < SYNDROMES; sum++) {
                all += counts[n * SYNDROMES + sum];
            }
            return all;
        }

        private int missedOf(int n) {
            return n == 0 ? 0 : counts[n * SYNDROMES];
        }

        // One bit is turned back, so only a pattern of one bit can become empty.
        private int rightlyMendedOf(int n) {
            return n > 1 ? 0 : mendedOf(n);
        }

        private int mendedOf(int n) {
            if (n == 0) {
                return 1;
            }
            int all = 0;
            for (int bit = 0; bit < rules.width(); bit++) {
                all += counts[n * SYNDROMES + rules.columnOf(bit)];
            }
            return all;
        }
    }
}
