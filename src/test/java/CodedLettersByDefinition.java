import java.util.ArrayList;
import java.util.Arrays;
import java.util.List;

/**
 * Small cases in which everything the document's terms speak of can be written out: all letters for
 * all numbers, all rows of words. What the class finds by search must be what is left of them.
 */
public final class CodedLettersByDefinition extends Checks {
    private static final int CASES = 10000;
    private static final int MOST_STEPS = 100000;
    private static long seed = 20261116;
    private static int manyReadings = 0;
    private static int manyWays = 0;

    public static void main(String[] args) {
        for (int i = 0; i < CASES; i++) {
            readings("readings, case " + i);
            ways("ways, case " + i);
        }
        due("cases with several readings are met", manyReadings > 1000, true);
        due("cases with several ways of the fewest words are met", manyWays > 1000, true);
        end();
    }

    // Terms, and promises 7 to 12

    private static void readings(String name) {
        int letters = 2 + next(5);
        int longest = 1 + next(3);
        List<String> words = someWords(letters, 2 + next(12), longest);
        CodedLetters x = withWords(words.toArray(new String[0]));
        int[] code = someCode(2 + next(7), 1 + next(4), longest);
        for (int sign : code) {
            due(name + ": sign", x.sign(sign), true);
        }
        int[] kept = someKept(x, letters, next(2) * next(4));
        int[] weights = someWeights(x, letters);
        List<int[]> all = allReadings(code, code.length, kept, words);
        manyReadings += all.size() > 1 ? 1 : 0;
        int steps = stepsDue(code, kept, words);
        if (steps > 0) {
            due(name + ": a step too few", x.run(steps - 1), -1);
            due(name + ": nothing is found then", x.best(), -1);
        }
        due(name + ": run", x.run(next(2) == 0 ? steps : MOST_STEPS), all.size());
        due(name + ": steps", x.steps(), steps);
        compareReadings(name, x, code, all, weights);
        due(name + ": hint", x.hint(), hintDue(code, kept, all));
    }

    private static void compareReadings(String name, CodedLetters x, int[] code, List<int[]> all,
            int[] weights) {
        int best = -1;
        long bestRank = Long.MIN_VALUE;
        int compared = Math.min(all.size(), 12);
        for (int k = 0; k < all.size(); k++) {
            long rank = rankDue(code, all.get(k), weights);
            if (rank > bestRank) {
                best = k;
                bestRank = rank;
            }
            if (k < compared) {
                due(name + ": rank " + k, x.rank(k), rank);
                for (int number = 0; number < 5; number++) {
                    due(name + ": letter " + k + " " + number, x.letter(k, number), all.get(k)[number]);
                }
            }
        }
        due(name + ": best", x.best(), best);
        due(name + ": no more readings", x.letter(all.size(), code[0]), -1);
    }

    /**
     * Every row of letters for the numbers among the first signs (and for the kept ones in all the
     * code), the one ahead first, that fits the terms; -1 for a number that is not among them.
     */
    private static List<int[]> allReadings(int[] code, int signs, int[] kept, List<String> words) {
        boolean[] in = new boolean[5];
        for (int i = 0; i < code.length; i++) {
            if (code[i] >= 0 && (i < signs || kept[code[i]] != 0)) {
                in[code[i]] = true;
            }
        }
        List<int[]> rows = new ArrayList<>();
        rows.add(new int[0]);
        for (int number = 0; number < 5; number++) {
            List<int[]> longer = new ArrayList<>();
            for (int[] row : rows) {
                for (int letter = in[number] ? 'a' : -1; letter <= (in[number] ? 'f' : -1); letter++) {
                    int[] grown = Arrays.copyOf(row, number + 1);
                    grown[number] = letter;
                    longer.add(grown);
                }
            }
            rows = longer;
        }
        rows.removeIf(row -> !fits(row, code, signs, kept, words));
        return rows;
    }

    private static boolean fits(int[] row, int[] code, int signs, int[] kept, List<String> words) {
        for (int number = 0; number < row.length; number++) {
            if (row[number] != -1 && kept[number] != 0 && row[number] != kept[number]) {
                return false;
            }
            for (int other = 0; other < number; other++) {
                if (row[number] != -1 && row[number] == row[other]) {
                    return false;
                }
            }
        }
        for (String codeword : readOut(row, code, signs)) {
            if (!words.contains(codeword)) {
                return false;
            }
        }
        return true;
    }

    private static List<String> readOut(int[] row, int[] code, int signs) {
        StringBuilder text = new StringBuilder();
        for (int i = 0; i < signs; i++) {
            text.append(code[i] < 0 ? ' ' : (char) row[code[i]]);
        }
        List<String> codewords = new ArrayList<>(Arrays.asList(text.toString().split(" ")));
        codewords.removeIf(String::isEmpty);
        return codewords;
    }

    /** For each codeword: as many as there are ways to read those before it, times words of its length. */
    private static int stepsDue(int[] code, int[] kept, List<String> words) {
        int sum = 0;
        for (int start = 0; start < code.length; start++) {
            if (code[start] >= 0 && (start == 0 || code[start - 1] < 0)) {
                int length = 1;
                while (start + length < code.length && code[start + length] >= 0) {
                    length++;
                }
                int codewordLength = length;
                int tried = (int) words.stream().filter(w -> w.length() == codewordLength).count();
                sum += allReadings(code, start, kept, words).size() * tried;
            }
        }
        return sum;
    }

    private static long rankDue(int[] code, int[] reading, int[] weights) {
        long sum = 0;
        for (String codeword : readOut(reading, code, code.length)) {
            for (int i = 1; i < codeword.length(); i++) {
                sum += weights[(codeword.charAt(i - 1) - 'a') * 26 + codeword.charAt(i) - 'a'];
            }
        }
        return sum;
    }

    private static int hintDue(int[] code, int[] kept, List<int[]> all) {
        List<int[]> first = all.subList(0, Math.min(200, all.size()));
        for (int number = 0; number < 5 && !first.isEmpty(); number++) {
            int there = number;
            int letter = first.get(0)[number];
            boolean same = first.stream().allMatch(row -> row[there] == letter);
            if (letter != -1 && kept[number] == 0 && same) {
                return number;
            }
        }
        return -1;
    }

    // Promises 18 and 19

    private static void ways(String name) {
        int letters = 1 + next(3);
        List<String> words = someWords(letters, 1 + next(8), 4);
        CodedLetters x = withWords(words.toArray(new String[0]));
        StringBuilder text = new StringBuilder();
        int length = next(10);
        for (int i = 0; i < length; i++) {
            text.append((char) ('a' + next(letters)));
        }
        plainText(x, text.toString());
        List<List<Integer>> all = new ArrayList<>();
        allWays(text.toString(), words, new ArrayList<>(), all);
        int fewest = all.stream().mapToInt(List::size).min().orElse(-1);
        all.removeIf(way -> way.size() != fewest);
        manyWays += all.size() > 1 ? 1 : 0;
        due(name + ": breaks", x.breaks(), fewest);
        // They are written out by the numbers of their words, so the first one is the one due.
        for (int k = -1; k <= length; k++) {
            int want = k >= 0 && k < fewest ? all.get(0).get(k) : -1;
            due(name + ": breakAt " + k, x.breakAt(k), want);
        }
    }

    private static void allWays(String rest, List<String> words, List<Integer> before,
            List<List<Integer>> all) {
        if (rest.isEmpty()) {
            all.add(before);
            return;
        }
        for (int word = 0; word < words.size(); word++) {
            if (rest.startsWith(words.get(word))) {
                List<Integer> way = new ArrayList<>(before);
                way.add(word);
                allWays(rest.substring(words.get(word).length()), words, way, all);
            }
        }
    }

    private static List<String> someWords(int letters, int tries, int longest) {
        List<String> words = new ArrayList<>();
        for (int i = 0; i < tries; i++) {
            StringBuilder word = new StringBuilder();
            int length = 1 + next(longest);
            for (int at = 0; at < length; at++) {
                word.append((char) ('a' + next(letters)));
            }
            if (!words.contains(word.toString())) {
                words.add(word.toString());
            }
        }
        return words;
    }

    /** Few of its codewords are longer than the longest word: else hardly a code could be read. */
    private static int[] someCode(int length, int numbers, int longest) {
        int[] code = new int[length];
        int side = 0;
        for (int i = 0; i < length; i++) {
            boolean gap = side >= longest ? next(20) != 0 : next(4) == 0;
            code[i] = gap ? -1 : next(numbers);
            side = gap ? 0 : side + 1;
        }
        return code;
    }

    /** The letters kept for the numbers 0 to 4, of which 4 is in no code; 0 for none. */
    private static int[] someKept(CodedLetters x, int letters, int tries) {
        int[] kept = new int[5];
        for (int i = 0; i < tries; i++) {
            int number = next(5);
            kept[number] = 'a' + next(letters);
            due("keep", x.keep(number, kept[number]), true);
        }
        return kept;
    }

    private static int[] someWeights(CodedLetters x, int letters) {
        int[] weights = new int[26 * 26];
        for (int i = 0; i < 12; i++) {
            int a = next(letters);
            int b = next(letters);
            weights[a * 26 + b] = next(7) - 3;
            due("pair", x.pair('a' + a, 'a' + b, weights[a * 26 + b]), true);
        }
        return weights;
    }

    private static int next(int bound) {
        seed = seed * 6364136223846793005L + 1442695040888963407L;
        return (int) ((seed >>> 33) % bound);
    }
}
