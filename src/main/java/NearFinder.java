/**
 * Finds those addresses of a book whose words are the least changes away from the words that are asked.
 *
 * All rows are made by the constructors and used again, so that no call makes an object (but for what share throws).
 */
public final class NearFinder {
    public static final int BAD = -1;

    private static final int ENTRIES = 40;
    private static final int PLACES = 1000;
    private static final int WORDS = 3;
    private static final int WORD_LETTERS = 10;
    private static final int ALPHABET = 26;
    private static final int LAST_DAY = 100_000;
    private static final int NEVER = -1;

    private final Book book;
    private final Words askedWords;
    private final Weights weights;
    private final Measure byChanges;
    private final Measure byCounts;
    private final Pairing pairing;
    private final Hits hits;
    private int askedPlace;
    private int sumsWorked;

    public NearFinder() {
        book = new Book();
        askedWords = new Words(WORDS);
        weights = new Weights();
        byChanges = new ByChanges(weights);
        byCounts = new ByCounts(weights);
        pairing = new Pairing(weights);
        hits = new Hits();
        askedPlace = BAD;
        sumsWorked = 0;
    }

    public int entry(int place) {
        if (!isPlace(place) || book.isFull()) {
            return BAD;
        }
        return book.addEntry(place);
    }

    public boolean letter(int entry, int word, int c) {
        if (!book.has(entry) || !isWord(word) || !isLetter(c)) {
            return false;
        }
        return book.words.append(Book.wordAt(entry, word), c);
    }

    public boolean ask(int word, int c) {
        if (!isWord(word) || !isLetter(c)) {
            return false;
        }
        return askedWords.append(word, c);
    }

    public boolean asked(int place) {
        if (place != BAD && !isPlace(place)) {
            return false;
        }
        askedWords.clear();
        askedPlace = place;
        return true;
    }

    public int weight(int kind, int w) {
        if (!Weights.isKind(kind) || !Weights.isWeight(w)) {
            return BAD;
        }
        return weights.replace(kind, w);
    }

    public int find(int k, int bound) {
        return look(k, bound, true);
    }

    public int scan(int k, int bound) {
        return look(k, bound, false);
    }

    public int worked() {
        return sumsWorked;
    }

    public int found(int i) {
        return hits.has(i) ? hits.entries[i] : BAD;
    }

    public int sum(int i) {
        return hits.has(i) ? hits.sums[i] : BAD;
    }

    public int sumOf(int entry) {
        return book.has(entry) ? leastOfWays(entry, byChanges) : BAD;
    }

    public int pair(int entry, int word) {
        if (!book.has(entry) || !isWord(word)) {
            return BAD;
        }
        leastOfWays(entry, byChanges);
        return Pairing.partner(pairing.bestWay, word);
    }

    public int changes(int word, int entry, int other) {
        if (!isWord(word) || !book.has(entry) || !isWord(other)) {
            return BAD;
        }
        int inBook = Book.wordAt(entry, other);
        if (askedWords.isNone(word) || book.words.isNone(inBook)) {
            return BAD;
        }
        return byChanges.between(askedWords, word, book.words, inBook);
    }

    public int learned(int entry, int day) {
        if (!book.has(entry) || day < 0 || day > LAST_DAY) {
            return BAD;
        }
        return book.learn(entry, day);
    }

    public int drop(int entry, boolean is) {
        if (!book.has(entry)) {
            return BAD;
        }
        int before = book.dropped[entry] ? 1 : 0;
        book.dropped[entry] = is;
        return before;
    }

    public long share(int part, int all) throws ArithmeticException {
        if (all == 0) {
            throw new ArithmeticException("a part of nothing");
        }
        return part * 1000L / all;
    }

    public int count(int what) {
        switch (what) {
            case 0:
                return book.size;
            case 1:
                return book.words.letterCount;
            case 2:
                return askedWords.letterCount;
            case 3:
                return hits.size;
            case 4:
                return book.droppedOnes();
            default:
                return BAD;
        }
    }

    private static boolean isPlace(int place) {
        return place >= 0 && place < PLACES;
    }

    private static boolean isWord(int word) {
        return word >= 0 && word < WORDS;
    }

    private static boolean isLetter(int c) {
        return c >= 0 && c < ALPHABET;
    }

    private int look(int k, int bound, boolean byBounds) {
        if (k < 1 || k > ENTRIES || bound < 0) {
            return BAD;
        }
        hits.start(k, bound);
        sumsWorked = 0;
        if (askedWords.letterCount == 0) {
            return 0;
        }
        for (int entry = 0; entry < book.size; entry++) {
            if (!isLookedFor(entry) || byBounds && leastOfWays(entry, byCounts) > hits.limit()) {
                continue;
            }
            sumsWorked++;
            hits.offer(entry, leastOfWays(entry, byChanges), book.days[entry]);
        }
        return hits.size;
    }

    private boolean isLookedFor(int entry) {
        return !book.dropped[entry] && (askedPlace == BAD || askedPlace == book.places[entry]);
    }

    private int leastOfWays(int entry, Measure measure) {
        pairing.start();
        for (int word = 0; word < WORDS; word++) {
            pairing.countWord(!askedWords.isNone(word));
            pairing.countWord(!book.words.isNone(Book.wordAt(entry, word)));
            for (int other = 0; other < WORDS; other++) {
                pairing.setCost(word, other, costOfPair(word, Book.wordAt(entry, other), measure));
            }
        }
        return pairing.choose();
    }

    private int costOfPair(int word, int inBook, Measure measure) {
        if (askedWords.isNone(word) || book.words.isNone(inBook)) {
            return Pairing.NO_PAIR;
        }
        return measure.between(askedWords, word, book.words, inBook);
    }

    /** Words of letters, all in one row, since a row for each word would make many objects. */
    private static final class Words {
        final int[] letters;
        final int[] lengths;
        int letterCount;

        Words(int most) {
            letters = new int[most * WORD_LETTERS];
            lengths = new int[most];
            letterCount = 0;
        }

        boolean append(int word, int c) {
            if (lengths[word] >= WORD_LETTERS) {
                return false;
            }
            letters[startOf(word) + lengths[word]] = c;
            lengths[word]++;
            letterCount++;
            return true;
        }

        boolean isNone(int word) {
            return lengths[word] == 0;
        }

        void clear() {
            for (int word = 0; word < lengths.length; word++) {
                lengths[word] = 0;
            }
            letterCount = 0;
        }

        static int startOf(int word) {
            return word * WORD_LETTERS;
        }
    }

    /** The entries, each with its place, its words, and what was told of it. */
    private static final class Book {
        final Words words;
        final int[] places;
        final int[] days;
        final int[] times;
        final boolean[] dropped;
        int size;

        Book() {
            words = new Words(ENTRIES * WORDS);
            places = new int[ENTRIES];
            days = new int[ENTRIES];
            times = new int[ENTRIES];
            dropped = new boolean[ENTRIES];
            size = 0;
        }

        static int wordAt(int entry, int word) {
            return entry * WORDS + word;
        }

        boolean has(int entry) {
            return entry >= 0 && entry < size;
        }

        boolean isFull() {
            return size >= ENTRIES;
        }

        int addEntry(int place) {
            int entry = size;
            places[entry] = place;
            days[entry] = NEVER;
            size++;
            return entry;
        }

        int learn(int entry, int day) {
            days[entry] = day;
            times[entry]++;
            return times[entry];
        }

        int droppedOnes() {
            int ones = 0;
            for (int entry = 0; entry < size; entry++) {
                if (dropped[entry]) {
                    ones++;
                }
            }
            return ones;
        }
    }

    private static final class Weights {
        private static final int PUT_IN = 0;
        private static final int LEFT_OUT = 1;
        private static final int EXCHANGED = 2;
        private static final int SOUNDS_ALIKE = 3;
        private static final int MISSING = 4;
        private static final int TURNED = 5;
        private static final int KINDS = 6;
        private static final int MOST = 1000;

        private final int[] ofKind;

        Weights() {
            ofKind = new int[] {10, 10, 15, 5, 60, 20};
        }

        static boolean isKind(int kind) {
            return kind >= 0 && kind < KINDS;
        }

        static boolean isWeight(int w) {
            return w >= 0 && w <= MOST;
        }

        int replace(int kind, int w) {
            int before = ofKind[kind];
            ofKind[kind] = w;
            return before;
        }

        int putIn() {
            return ofKind[PUT_IN];
        }

        int leftOut() {
            return ofKind[LEFT_OUT];
        }

        int exchanged() {
            return ofKind[EXCHANGED];
        }

        int exchangedAlike() {
            return Math.min(ofKind[EXCHANGED], ofKind[SOUNDS_ALIKE]);
        }

        int missing() {
            return ofKind[MISSING];
        }

        int turned() {
            return ofKind[TURNED];
        }
    }

    /** How far a word that is asked is from a word of the book; both have letters. */
    private interface Measure {
        int between(Words from, int word, Words to, int other);
    }

    /** The changes themselves: the least sums of the table of all beginnings, of which one row is kept. */
    private static final class ByChanges implements Measure {
        /** For each letter of the alphabet a number that it shares with those that sound alike, and no others. */
        private static final int[] SOUNDS = {
            0, 1, 2, 3, 4, 1, 2, 5, 6, 2, 2, 7, 8, 8, 9, 1, 2, 10, 2, 3, 11, 1, 12, 2, 13, 2
        };

        private final Weights weights;
        private final int[] row;

        ByChanges(Weights weights) {
            this.weights = weights;
            row = new int[WORD_LETTERS + 1];
        }

        public int between(Words from, int word, Words to, int other) {
            int length = to.lengths[other];
            int putIn = weights.putIn();
            for (int i = 0; i <= length; i++) {
                row[i] = i * putIn;
            }
            int start = Words.startOf(word);
            for (int i = 0; i < from.lengths[word]; i++) {
                nextRow(from.letters[start + i], to.letters, Words.startOf(other), length);
            }
            return row[length];
        }

        private void nextRow(int letter, int[] letters, int start, int length) {
            int putIn = weights.putIn();
            int leftOut = weights.leftOut();
            int exchanged = weights.exchanged();
            int exchangedAlike = weights.exchangedAlike();
            int aslant = row[0];
            int least = aslant + leftOut;
            row[0] = least;
            for (int i = 1; i <= length; i++) {
                int other = letters[start + i - 1];
                int byExchange = aslant;
                if (other != letter) {
                    byExchange += SOUNDS[other] == SOUNDS[letter] ? exchangedAlike : exchanged;
                }
                aslant = row[i];
                least = Math.min(byExchange, Math.min(least + putIn, aslant + leftOut));
                row[i] = least;
            }
        }
    }

    /** What the changes can't be below, told by counting letters alone. */
    private static final class ByCounts implements Measure {
        private final Weights weights;
        private final int[] spare;

        ByCounts(Weights weights) {
            this.weights = weights;
            spare = new int[ALPHABET];
        }

        public int between(Words from, int word, Words to, int other) {
            int shared = sharedLetters(from, word, to, other);
            int anyExchange = weights.exchangedAlike();
            int beyondOther = from.lengths[word] - shared;
            int beyondAsked = to.lengths[other] - shared;
            return Math.max(
                beyondOther * Math.min(weights.leftOut(), anyExchange),
                beyondAsked * Math.min(weights.putIn(), anyExchange));
        }

        private int sharedLetters(Words from, int word, Words to, int other) {
            int start = Words.startOf(word);
            int otherStart = Words.startOf(other);
            for (int i = 0; i < from.lengths[word]; i++) {
                spare[from.letters[start + i]]++;
            }
            int shared = 0;
            for (int i = 0; i < to.lengths[other]; i++) {
                int c = to.letters[otherStart + i];
                if (spare[c] > 0) {
                    spare[c]--;
                    shared++;
                }
            }
            // Only these were counted: setting them back is less work than clearing the alphabet.
            for (int i = 0; i < from.lengths[word]; i++) {
                spare[from.letters[start + i]] = 0;
            }
            return shared;
        }
    }

    /**
     * The ways to pair three words with three. A way is a number of three digits to the base of four, the first
     * word's the highest, 0 for none and 1, 2, 3 for words 0, 1, 2: so the numbers' order is the document's.
     */
    private static final class Pairing {
        static final int NO_PAIR = -1;

        private static final int WAYS = 64;
        /** Above every sum: words of ten letters and weights up to 1,000 keep those under a tenth of it. */
        private static final int NO_WAY = 1_000_000;

        private final Weights weights;
        private final int[] costs;
        private int wordCount;
        int bestWay;

        Pairing(Weights weights) {
            this.weights = weights;
            costs = new int[WORDS * WORDS];
            wordCount = 0;
            bestWay = 0;
        }

        /** The word of the entry, or BAD for none, which is the digit less one. */
        static int partner(int way, int word) {
            return (way >> 2 * (WORDS - 1 - word) & 3) - 1;
        }

        void start() {
            wordCount = 0;
        }

        void countWord(boolean isThere) {
            if (isThere) {
                wordCount++;
            }
        }

        void setCost(int word, int other, int cost) {
            costs[word * WORDS + other] = cost;
        }

        int choose() {
            int least = NO_WAY;
            for (int way = 0; way < WAYS; way++) {
                int total = totalOf(way);
                if (total < least) {
                    least = total;
                    bestWay = way;
                }
            }
            return least;
        }

        private int totalOf(int way) {
            int total = 0;
            int alone = wordCount;
            for (int word = 0; word < WORDS; word++) {
                int other = partner(way, word);
                if (other >= 0) {
                    int cost = costs[word * WORDS + other];
                    if (cost == NO_PAIR || isTaken(way, word, other)) {
                        return NO_WAY;
                    }
                    total += cost + turnedBefore(way, word, other) * weights.turned();
                    alone -= 2;
                }
            }
            return total + alone * weights.missing();
        }

        private static boolean isTaken(int way, int word, int other) {
            for (int before = 0; before < word; before++) {
                if (partner(way, before) == other) {
                    return true;
                }
            }
            return false;
        }

        private static int turnedBefore(int way, int word, int other) {
            int turned = 0;
            for (int before = 0; before < word; before++) {
                if (partner(way, before) > other) {
                    turned++;
                }
            }
            return turned;
        }
    }

    /** What was found, the nearest first, with sums and days as they were then. */
    private static final class Hits {
        final int[] entries;
        final int[] sums;
        private final int[] days;
        private int most;
        private int bound;
        int size;

        Hits() {
            entries = new int[ENTRIES];
            sums = new int[ENTRIES];
            days = new int[ENTRIES];
            most = 0;
            bound = 0;
            size = 0;
        }

        void start(int most, int bound) {
            this.most = most;
            this.bound = bound;
            size = 0;
        }

        boolean has(int i) {
            return i >= 0 && i < size;
        }

        /** The greatest sum that can still come in. */
        int limit() {
            return size > 0 && size >= most ? sums[size - 1] : bound;
        }

        /** Entries are offered in order: of like ones the later one stands behind. */
        void offer(int entry, int sum, int day) {
            if (sum > bound) {
                return;
            }
            int at = size;
            while (at > 0 && isNearer(sum, day, at - 1)) {
                at--;
            }
            if (at >= most) {
                return;
            }
            if (size < most) {
                size++;
            }
            for (int i = size - 1; i > at; i--) {
                copy(i - 1, i);
            }
            entries[at] = entry;
            sums[at] = sum;
            days[at] = day;
        }

        private boolean isNearer(int sum, int day, int i) {
            return sum < sums[i] || sum == sums[i] && day > days[i];
        }

        private void copy(int from, int to) {
            entries[to] = entries[from];
            sums[to] = sums[from];
            days[to] = days[from];
        }
    }
}
