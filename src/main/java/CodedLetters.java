import java.util.Arrays;

/**
 * Coded texts: numbers that stand for letters, words from a list, all ways to read them, ranked by
 * rows of pairs; shifts and keyed shifts tried; breaks of a text without gaps into words; hints by
 * letters.
 *
 * <p>Inside, a letter is its place in the alphabet, 0 to 25; the face alone speaks of bytes 97 to
 * 122. Every row has its full length from the constructor on, so that no call makes an object.
 */
public final class CodedLetters {
    private static final int ALPHABET = 26;
    private static final int FIRST_LETTER = 97;
    private static final int NONE = -1;
    private static final int GAP = -1;
    private static final int NO_LETTER = 0;
    private static final int MAX_WORDS = 60;
    private static final int MAX_WORD_LENGTH = 8;
    private static final int MAX_SIGNS = 60;
    /** Each codeword but the first needs a gap before it, so no more than half the signs begin one. */
    private static final int MAX_CODEWORDS = MAX_SIGNS / 2;
    private static final int MAX_READINGS = 200;
    /** So many halvings bring any stretch of the readings kept down to one place. */
    private static final int MAX_HALVINGS = 8;
    private static final int MAX_STEPS = 100000;
    private static final int MAX_WEIGHT = 1000;
    private static final int MAX_PLAIN = 60;
    private static final int TOO_FEW_STEPS = -1;
    private static final int WRONG_STEPS = -2;

    private final WordList words = new WordList();
    private final Code code = new Code();
    private final Pairs pairs = new Pairs();
    private final Readings readings = new Readings();
    private final Search search = new Search(words, code, readings);
    private final PlainText plainText = new PlainText();
    private final WordBreaks wordBreaks = new WordBreaks(words, plainText);

    public CodedLetters() {
    }

    public boolean unit(int u) {
        return words.collect(placeOf(u));
    }

    public int word() {
        return words.takeCollected();
    }

    public boolean sign(int v) {
        if (!code.append(v)) {
            return false;
        }
        readings.forget();
        return true;
    }

    public boolean keep(int number, int letter) {
        int place = placeOf(letter);
        if (!isNumber(number) || (place == NONE && letter != NO_LETTER)) {
            return false;
        }
        code.keepPlace(number, place);
        readings.forget();
        return true;
    }

    public boolean pair(int a, int b, int v) {
        return pairs.weigh(placeOf(a), placeOf(b), v);
    }

    public int run(int steps) {
        if (steps < 0 || steps > MAX_STEPS) {
            return WRONG_STEPS;
        }
        return search.seekAll(steps);
    }

    public int steps() {
        return search.stepsMade();
    }

    public int letter(int k, int number) {
        return letterOf(readings.placeIn(k, number));
    }

    public long rank(int k) {
        return readings.has(k) ? rankOfKept(k) : 0;
    }

    public int best() {
        int bestSoFar = NONE;
        long bestRank = 0;
        for (int k = 0; k < readings.size(); k++) {
            long rank = rankOfKept(k);
            if (bestSoFar == NONE || rank > bestRank) {
                bestSoFar = k;
                bestRank = rank;
            }
        }
        return bestSoFar;
    }

    public int hint() {
        for (int number = 0; number < ALPHABET; number++) {
            if (code.contains(number) && code.keptPlace(number) == NONE) {
                int place = readings.commonPlace(number);
                if (place != NONE) {
                    code.keepPlace(number, place);
                    return number;
                }
            }
        }
        return NONE;
    }

    public int codewords() {
        return code.codewordCount();
    }

    public boolean plain(int u) {
        return plainText.append(placeOf(u));
    }

    public int shifted(int n, int i) {
        return shiftedLetter(plainText.placeAt(i), Math.floorMod(n, ALPHABET));
    }

    public int bestShift() {
        int bestSoFar = 0;
        long bestSum = shiftedSum(0);
        for (int shift = 1; shift < ALPHABET; shift++) {
            long sum = shiftedSum(shift);
            if (sum > bestSum) {
                bestSoFar = shift;
                bestSum = sum;
            }
        }
        return bestSoFar;
    }

    public int keyed(int word, int i) {
        int length = words.lengthOf(word);
        if (length <= 0 || i < 0) {
            return NONE;
        }
        return shiftedLetter(plainText.placeAt(i), words.placeAt(word, i % length));
    }

    public int breaks() {
        return wordBreaks.fewestWords();
    }

    public int breakAt(int k) {
        return wordBreaks.wordOf(k);
    }

    public void clear() {
        code.empty();
        readings.forget();
        plainText.empty();
    }

    private long rankOfKept(int k) {
        long sum = 0;
        for (int i = 1; i < code.size(); i++) {
            int before = readings.placeIn(k, code.signAt(i - 1));
            int behind = readings.placeIn(k, code.signAt(i));
            sum += pairs.weightOf(before, behind);
        }
        return sum;
    }

    private long shiftedSum(int shift) {
        long sum = 0;
        for (int i = 1; i < plainText.size(); i++) {
            int before = shiftedPlace(plainText.placeAt(i - 1), shift);
            int behind = shiftedPlace(plainText.placeAt(i), shift);
            sum += pairs.weightOf(before, behind);
        }
        return sum;
    }

    private static int shiftedPlace(int place, int shift) {
        return (place + shift) % ALPHABET;
    }

    private static int shiftedLetter(int place, int shift) {
        return place == NONE ? NONE : letterOf(shiftedPlace(place, shift));
    }

    private static int placeOf(int letter) {
        boolean isLetter = letter >= FIRST_LETTER && letter < FIRST_LETTER + ALPHABET;
        return isLetter ? letter - FIRST_LETTER : NONE;
    }

    private static int letterOf(int place) {
        return isPlace(place) ? place + FIRST_LETTER : NONE;
    }

    private static boolean isPlace(int place) {
        return place >= 0 && place < ALPHABET;
    }

    private static boolean isNumber(int number) {
        return number >= 0 && number < ALPHABET;
    }

    /** The words, and the letters collected for the next one. */
    private static final class WordList {
        private final int[] places = new int[MAX_WORDS * MAX_WORD_LENGTH];
        private final int[] lengths = new int[MAX_WORDS];
        private final int[] collected = new int[MAX_WORD_LENGTH];
        private int count = 0;
        private int collectedCount = 0;

        boolean collect(int place) {
            if (!isPlace(place) || collectedCount >= MAX_WORD_LENGTH) {
                return false;
            }
            collected[collectedCount] = place;
            collectedCount++;
            return true;
        }

        int takeCollected() {
            int number = collectedCount == 0 ? NONE : numberOfCollected();
            collectedCount = 0;
            return number;
        }

        int size() {
            return count;
        }

        /** 0 when there is no such word: no word has that length. */
        int lengthOf(int word) {
            return word >= 0 && word < count ? lengths[word] : 0;
        }

        int placeAt(int word, int i) {
            return i >= 0 && i < lengthOf(word) ? places[word * MAX_WORD_LENGTH + i] : NONE;
        }

        private int numberOfCollected() {
            for (int word = 0; word < count; word++) {
                if (isCollected(word)) {
                    return word;
                }
            }
            return addCollected();
        }

        private boolean isCollected(int word) {
            if (lengthOf(word) != collectedCount) {
                return false;
            }
            for (int i = 0; i < collectedCount; i++) {
                if (placeAt(word, i) != collected[i]) {
                    return false;
                }
            }
            return true;
        }

        private int addCollected() {
            if (count >= MAX_WORDS) {
                return NONE;
            }
            int word = count;
            System.arraycopy(collected, 0, places, word * MAX_WORD_LENGTH, collectedCount);
            lengths[word] = collectedCount;
            count++;
            return word;
        }
    }

    /** The code, its codewords, and the letters kept for numbers. */
    private static final class Code {
        private final int[] signs = new int[MAX_SIGNS];
        private final int[] starts = new int[MAX_CODEWORDS];
        private final int[] lengths = new int[MAX_CODEWORDS];
        private final boolean[] present = new boolean[ALPHABET];
        private final int[] kept = new int[ALPHABET];
        private int count = 0;
        private int codewordCount = 0;

        Code() {
            Arrays.fill(kept, NONE);
        }

        boolean append(int sign) {
            if (count >= MAX_SIGNS || (sign != GAP && !isNumber(sign))) {
                return false;
            }
            if (sign != GAP) {
                present[sign] = true;
                growCodeword();
            }
            signs[count] = sign;
            count++;
            return true;
        }

        void empty() {
            count = 0;
            codewordCount = 0;
            for (int number = 0; number < ALPHABET; number++) {
                present[number] = false;
                kept[number] = NONE;
            }
        }

        int size() {
            return count;
        }

        int signAt(int i) {
            return i >= 0 && i < count ? signs[i] : GAP;
        }

        boolean contains(int number) {
            return isNumber(number) && present[number];
        }

        int codewordCount() {
            return codewordCount;
        }

        int codewordLength(int codeword) {
            return codeword >= 0 && codeword < codewordCount ? lengths[codeword] : 0;
        }

        int numberAt(int codeword, int i) {
            return i >= 0 && i < codewordLength(codeword) ? signAt(starts[codeword] + i) : GAP;
        }

        void keepPlace(int number, int place) {
            if (isNumber(number)) {
                kept[number] = place;
            }
        }

        int keptPlace(int number) {
            return isNumber(number) ? kept[number] : NONE;
        }

        private void growCodeword() {
            boolean begins = signAt(count - 1) == GAP;
            if (begins && codewordCount < MAX_CODEWORDS) {
                starts[codewordCount] = count;
                lengths[codewordCount] = 0;
                codewordCount++;
            }
            if (codewordCount > 0) {
                lengths[codewordCount - 1]++;
            }
        }
    }

    /** The weights of the pairs: a row for each first letter. */
    private static final class Pairs {
        private final int[] weights = new int[ALPHABET * ALPHABET];

        boolean weigh(int a, int b, int weight) {
            if (!isPlace(a) || !isPlace(b) || weight < -MAX_WEIGHT || weight > MAX_WEIGHT) {
                return false;
            }
            weights[a * ALPHABET + b] = weight;
            return true;
        }

        /** 0 when one is no letter, so that a gap adds nothing to a sum. */
        int weightOf(int a, int b) {
            return isPlace(a) && isPlace(b) ? weights[a * ALPHABET + b] : 0;
        }
    }

    /** The readings that are kept, the one ahead of all others first. */
    private static final class Readings {
        private final int[] places = new int[MAX_READINGS * ALPHABET];
        /** The slot in which reading k stands: a reading that comes in between moves slots, not rows. */
        private final int[] slots = new int[MAX_READINGS];
        private int count = 0;

        void forget() {
            count = 0;
        }

        int size() {
            return count;
        }

        boolean has(int k) {
            return k >= 0 && k < count;
        }

        int placeIn(int k, int number) {
            return has(k) && isNumber(number) ? places[slots[k] * ALPHABET + number] : NONE;
        }

        /** The place that a number has in all readings kept; NONE when they differ or none is kept. */
        int commonPlace(int number) {
            int place = placeIn(0, number);
            for (int k = 1; k < count; k++) {
                if (placeIn(k, number) != place) {
                    return NONE;
                }
            }
            return place;
        }

        /** Takes a reading in where it belongs; beyond the last one kept it is left out. */
        void offer(int[] reading) {
            int k = positionOf(reading);
            if (k >= MAX_READINGS) {
                return;
            }
            boolean full = count >= MAX_READINGS;
            int slot = full ? slots[MAX_READINGS - 1] : count;
            int last = full ? MAX_READINGS - 1 : count;
            System.arraycopy(slots, k, slots, k + 1, last - k);
            slots[k] = slot;
            System.arraycopy(reading, 0, places, slot * ALPHABET, ALPHABET);
            count = last + 1;
        }

        /** How many of the readings kept are ahead of this one. */
        private int positionOf(int[] reading) {
            if (count == 0 || isAhead(count - 1, reading)) {
                return count;
            }
            int low = 0;
            int high = count - 1;
            for (int halving = 0; halving < MAX_HALVINGS && low < high; halving++) {
                int middle = (low + high) / 2;
                if (isAhead(middle, reading)) {
                    low = middle + 1;
                } else {
                    high = middle;
                }
            }
            return low;
        }

        private boolean isAhead(int k, int[] reading) {
            if (!has(k)) {
                return false;
            }
            int row = slots[k] * ALPHABET;
            for (int number = 0; number < ALPHABET; number++) {
                int place = places[row + number];
                if (place != reading[number]) {
                    return place < reading[number];
                }
            }
            return false;
        }
    }

    /** Seeks all readings, codeword by codeword, and counts the steps. */
    private static final class Search {
        private final WordList words;
        private final Code code;
        private final Readings readings;
        /** The letter that each number has by now. */
        private final int[] places = new int[ALPHABET];
        private final boolean[] taken = new boolean[ALPHABET];
        /** The numbers in the order in which words gave them letters, to take these back. */
        private final int[] given = new int[ALPHABET];
        private int givenCount = 0;
        private int allowed = 0;
        private int made = 0;
        private int found = 0;
        private boolean stopped = false;

        Search(WordList words, Code code, Readings readings) {
            this.words = words;
            this.code = code;
            this.readings = readings;
        }

        int stepsMade() {
            return made;
        }

        int seekAll(int steps) {
            readings.forget();
            allowed = steps;
            made = 0;
            found = 0;
            stopped = false;
            if (beginWithKept()) {
                seekFrom(0);
            }
            if (stopped) {
                readings.forget();
                return TOO_FEW_STEPS;
            }
            return found;
        }

        /** False when two numbers in the code are kept for one letter. */
        private boolean beginWithKept() {
            givenCount = 0;
            Arrays.fill(places, NONE);
            for (int place = 0; place < ALPHABET; place++) {
                taken[place] = false;
            }
            for (int number = 0; number < ALPHABET; number++) {
                int place = code.keptPlace(number);
                if (code.contains(number) && isPlace(place)) {
                    if (taken[place]) {
                        return false;
                    }
                    places[number] = place;
                    taken[place] = true;
                }
            }
            return true;
        }

        /** No deeper than there are codewords, which are at most MAX_CODEWORDS. */
        private void seekFrom(int codeword) {
            if (codeword >= code.codewordCount()) {
                found++;
                readings.offer(places);
                return;
            }
            int length = code.codewordLength(codeword);
            for (int word = 0; word < words.size() && !stopped; word++) {
                if (words.lengthOf(word) == length) {
                    tryWord(codeword, word);
                }
            }
        }

        private void tryWord(int codeword, int word) {
            if (made >= allowed) {
                stopped = true;
                return;
            }
            made++;
            int givenBefore = givenCount;
            if (agrees(codeword, word)) {
                seekFrom(codeword + 1);
            }
            takeBack(givenBefore);
        }

        /** Gives the word's letters to the codeword's numbers, up to the first that does not agree. */
        private boolean agrees(int codeword, int word) {
            int length = words.lengthOf(word);
            for (int i = 0; i < length; i++) {
                if (!give(code.numberAt(codeword, i), words.placeAt(word, i))) {
                    return false;
                }
            }
            return true;
        }

        private boolean give(int number, int place) {
            if (!isNumber(number) || !isPlace(place)) {
                return false;
            }
            if (places[number] == place) {
                return true;
            }
            if (places[number] != NONE || taken[place] || givenCount >= ALPHABET) {
                return false;
            }
            places[number] = place;
            taken[place] = true;
            given[givenCount] = number;
            givenCount++;
            return true;
        }

        private void takeBack(int givenBefore) {
            for (int i = givenCount - 1; i >= givenBefore; i--) {
                release(given[i]);
            }
            givenCount = givenBefore;
        }

        private void release(int number) {
            if (!isNumber(number) || !isPlace(places[number])) {
                return;
            }
            taken[places[number]] = false;
            places[number] = NONE;
        }
    }

    /** The plain. */
    private static final class PlainText {
        private final int[] places = new int[MAX_PLAIN];
        private int count = 0;

        boolean append(int place) {
            if (!isPlace(place) || count >= MAX_PLAIN) {
                return false;
            }
            places[count] = place;
            count++;
            return true;
        }

        void empty() {
            count = 0;
        }

        int size() {
            return count;
        }

        int placeAt(int i) {
            return i >= 0 && i < count ? places[i] : NONE;
        }
    }

    /** Breaks the plain into the fewest words. */
    private static final class WordBreaks {
        private final WordList words;
        private final PlainText text;
        /** The fewest words from a position to the end; NONE when no words lead there. */
        private final int[] fewest = new int[MAX_PLAIN + 1];

        WordBreaks(WordList words, PlainText text) {
            this.words = words;
            this.text = text;
        }

        int fewestWords() {
            int end = text.size();
            fewest[end] = 0;
            for (int position = end - 1; position >= 0; position--) {
                fewest[position] = fewestAt(position);
            }
            return fewest[0];
        }

        int wordOf(int k) {
            if (k < 0 || k >= fewestWords()) {
                return NONE;
            }
            int position = 0;
            for (int i = 0; i < k; i++) {
                position += words.lengthOf(leastWordAt(position));
            }
            return leastWordAt(position);
        }

        private int fewestAt(int position) {
            int least = NONE;
            for (int word = 0; word < words.size(); word++) {
                int rest = fewestBehind(word, position);
                if (rest != NONE && (least == NONE || rest + 1 < least)) {
                    least = rest + 1;
                }
            }
            return least;
        }

        /** The word of the least number with which a way of the fewest words goes on. */
        private int leastWordAt(int position) {
            for (int word = 0; word < words.size(); word++) {
                int rest = fewestBehind(word, position);
                if (rest != NONE && rest + 1 == fewest[position]) {
                    return word;
                }
            }
            return NONE;
        }

        /** The fewest words behind a word that stands at a position; NONE when it does not. */
        private int fewestBehind(int word, int position) {
            int end = position + words.lengthOf(word);
            if (position < 0 || end > text.size()) {
                return NONE;
            }
            for (int i = position; i < end; i++) {
                if (text.placeAt(i) != words.placeAt(word, i - position)) {
                    return NONE;
                }
            }
            return fewest[end];
        }
    }
}
