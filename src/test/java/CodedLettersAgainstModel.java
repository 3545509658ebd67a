import java.util.ArrayList;
import java.util.Arrays;
import java.util.HashMap;
import java.util.HashSet;
import java.util.List;
import java.util.Map;
import java.util.TreeMap;

/**
 * Long mixed runs of calls, each answer compared with a plain model of the document that works in
 * another way: readings grow side by side, one codeword after the other, and are sorted at the end.
 */
public final class CodedLettersAgainstModel {
    private static final int RUNS = 4000;
    private static final int CALLS = 512;
    /** No kind of call below makes more calls of the object than these. */
    private static final int CALLS_AT_ONCE = 120;
    private static final int SHOWN = 20;
    private static long seed = 20261115;
    private static int wrong = 0;
    /** How many calls the object of this run has had. */
    private static int calls = 0;
    private static final Map<String, Integer> answers = new TreeMap<>();

    public static void main(String[] args) {
        for (int run = 0; run < RUNS && wrong < SHOWN; run++) {
            oneRun(run);
        }
        for (String kind : new String[] {"run -1", "run -2", "run 0", "run 1", "run 2..200",
            "run 201..", "hint -1", "hint", "breaks -1", "breaks 0", "breaks 1", "breaks 2.."}) {
            if (answers.getOrDefault(kind, 0) < 20 && wrong == 0) {
                wrong++;
                System.out.println("too seldom met to be tested: " + kind + " in " + answers);
            }
        }
        System.out.println(answers);
        System.out.println(wrong == 0 ? "all answers are the model's" : wrong + " are not the model's");
        if (wrong != 0) {
            System.exit(1);
        }
    }

    private static void oneRun(int run) {
        CodedLetters x = new CodedLetters();
        Model m = new Model();
        // Many words of one letter, and codewords of one number: so that more than 200 readings come.
        boolean many = run % 7 == 0;
        int letters = many ? 26 : 2 + next(run % 3 == 0 ? 25 : 5);
        int numbers = 1 + next(run % 5 == 0 ? 26 : 6);
        int longest = many ? 1 : 1 + next(run % 4 == 0 ? 9 : 3);
        int gapOneIn = many ? 2 : 2 + next(4);
        calls = 0;
        while (calls <= CALLS - CALLS_AT_ONCE && wrong < SHOWN) {
            int kind = next(24);
            if (kind < 5) {
                int length = 1 + next(longest);
                for (int i = 0; i < length; i++) {
                    int u = letter(letters);
                    due(run, "unit " + u, x.unit(u) ? 1 : 0, m.unit(u) ? 1 : 0);
                }
                due(run, "word", x.word(), m.word());
            } else if (kind < 11 && run % 2 == 0 && !m.words.isEmpty()) {
                oneMeantWord(run, kind < 8, x, m);
            } else if (kind < 8) {
                int length = 1 + next(8);
                for (int i = 0; i < length; i++) {
                    int u = letter(letters);
                    due(run, "plain " + u, x.plain(u) ? 1 : 0, m.plain(u) ? 1 : 0);
                }
            } else {
                oneCall(run, kind, x, m, letters, numbers, gapOneIn);
            }
        }
        if (calls > CALLS) {
            wrong++;
            System.out.println("run " + run + ": " + calls + " calls, more than are promised");
        }
    }

    /** A word of the list comes behind the plain or, in one fixed code, behind the code. */
    private static void oneMeantWord(int run, boolean asPlain, CodedLetters x, Model m) {
        String word = m.words.get(next(m.words.size()));
        for (int i = 0; i < word.length(); i++) {
            int u = word.charAt(i);
            int v = (u * 7 + 3) % 26;
            if (asPlain) {
                due(run, "plain " + u, x.plain(u) ? 1 : 0, m.plain(u) ? 1 : 0);
            } else {
                due(run, "sign " + v, x.sign(v) ? 1 : 0, m.sign(v) ? 1 : 0);
            }
        }
        if (!asPlain) {
            due(run, "sign -1", x.sign(-1) ? 1 : 0, m.sign(-1) ? 1 : 0);
        }
    }

    private static void oneCall(int run, int kind, CodedLetters x, Model m, int letters, int numbers,
            int gapOneIn) {
        int a = letter(letters);
        int b = letter(letters);
        int n = next(40) == 0 ? odd() : next(numbers);
        int k = next(10) == 0 ? next(210) - 3 : next(4);
        switch (kind) {
            case 8, 9, 10 -> {
                int v = next(gapOneIn) == 0 ? -1 : n;
                due(run, "sign " + v, x.sign(v) ? 1 : 0, m.sign(v) ? 1 : 0);
            }
            case 11 -> {
                int l = next(2) == 0 ? 0 : a;
                due(run, "keep " + n + " " + l, x.keep(n, l) ? 1 : 0, m.keep(n, l) ? 1 : 0);
            }
            case 12, 13 -> {
                int v = next(10) == 0 ? next(2100) - 1050 : next(9) - 4;
                due(run, "pair " + a + " " + b + " " + v, x.pair(a, b, v) ? 1 : 0, m.pair(a, b, v) ? 1 : 0);
            }
            case 14, 15 -> oneSearch(run, x, m);
            case 16 -> due(run, "letter " + k + " " + n, x.letter(k, n), m.letter(k, n));
            case 17 -> due(run, "rank " + k, x.rank(k), m.rank(k));
            case 18 -> due(run, "best", x.best(), m.best());
            case 19 -> {
                int got = x.hint();
                met(got < 0 ? "hint -1" : "hint");
                due(run, "hint", got, m.hint());
            }
            case 20 -> {
                due(run, "codewords", x.codewords(), m.codewords().size());
                due(run, "bestShift", x.bestShift(), m.bestShift());
            }
            case 21 -> {
                int i = next(10) == 0 ? odd() : next(20);
                int shift = next(3) == 0 ? odd() : next(100) - 50;
                due(run, "shifted " + shift + " " + i, x.shifted(shift, i), m.shifted(shift, i));
                due(run, "keyed " + k + " " + i, x.keyed(k, i), m.keyed(k, i));
            }
            case 22 -> oneBreak(run, x, m);
            default -> {
                if (next(8) == 0) {
                    x.clear();
                    m.clear();
                    calls++;
                }
                due(run, "steps", x.steps(), m.steps);
            }
        }
    }

    private static void oneSearch(int run, CodedLetters x, Model m) {
        int steps = next(20) == 0 ? odd() : next(4) == 0 ? next(100) : 3000;
        int got = x.run(steps);
        met(got < 2 ? "run " + got : got <= 200 ? "run 2..200" : "run 201..");
        due(run, "run " + steps, got, m.run(steps));
        due(run, "steps", x.steps(), m.steps);
        int last = m.kept.size() - 1;
        for (int k : new int[] {0, next(last + 2), last, last + 1}) {
            int number = next(26);
            for (int i = 0; i < 8; i++) {
                due(run, "letter " + k + " " + number, x.letter(k, number), m.letter(k, number));
                number = m.code.isEmpty() ? next(26) : m.code.get(next(m.code.size()));
            }
        }
        due(run, "best", x.best(), m.best());
    }

    private static void oneBreak(int run, CodedLetters x, Model m) {
        List<Integer> way = m.leastWay();
        int got = x.breaks();
        met(got < 2 ? "breaks " + got : "breaks 2..");
        due(run, "breaks", got, way == null ? -1 : way.size());
        for (int k = -1; k <= got + 1; k++) {
            boolean there = way != null && k >= 0 && k < way.size();
            due(run, "breakAt " + k, x.breakAt(k), there ? way.get(k) : -1);
        }
    }

    private static void met(String kind) {
        answers.merge(kind, 1, Integer::sum);
    }

    private static int letter(int letters) {
        return next(50) == 0 ? odd() : 'a' + next(letters);
    }

    private static int odd() {
        int[] values = {Integer.MIN_VALUE, Integer.MAX_VALUE, -2, -1, 0, 25, 26, 60, 96, 97, 122, 123,
            200, 1000, 1001, 100000, 100001};
        return values[next(values.length)];
    }

    private static int next(int bound) {
        seed = seed * 6364136223846793005L + 1442695040888963407L;
        return (int) ((seed >>> 33) % bound);
    }

    private static void due(int run, String what, long got, long want) {
        calls++;
        if (got != want) {
            wrong++;
            System.out.println("run " + run + ": " + what + " answered " + got + ", the model " + want);
        }
    }

    private static final class Model {
        private final List<String> words = new ArrayList<>();
        private String collected = "";
        private String text = "";
        private final List<Integer> code = new ArrayList<>();
        private final Map<Integer, Integer> keptLetters = new HashMap<>();
        private final Map<String, Integer> weights = new HashMap<>();
        private List<TreeMap<Integer, Integer>> kept = new ArrayList<>();
        private int steps = 0;

        boolean unit(int u) {
            if (u < 'a' || u > 'z' || collected.length() == 8) {
                return false;
            }
            collected += (char) u;
            return true;
        }

        int word() {
            String word = collected;
            collected = "";
            if (word.isEmpty() || words.contains(word)) {
                return words.indexOf(word);
            }
            if (words.size() == 60) {
                return -1;
            }
            words.add(word);
            return words.size() - 1;
        }

        boolean sign(int v) {
            if (v < -1 || v > 25 || code.size() == 60) {
                return false;
            }
            code.add(v);
            kept = new ArrayList<>();
            return true;
        }

        boolean keep(int number, int letter) {
            if (number < 0 || number > 25 || (letter != 0 && (letter < 'a' || letter > 'z'))) {
                return false;
            }
            keptLetters.remove(number);
            if (letter != 0) {
                keptLetters.put(number, letter);
            }
            kept = new ArrayList<>();
            return true;
        }

        boolean pair(int a, int b, int v) {
            if (a < 'a' || a > 'z' || b < 'a' || b > 'z' || v < -1000 || v > 1000) {
                return false;
            }
            weights.put("" + (char) a + (char) b, v);
            return true;
        }

        List<List<Integer>> codewords() {
            List<List<Integer>> all = new ArrayList<>();
            List<Integer> current = new ArrayList<>();
            for (int i = 0; i <= code.size(); i++) {
                if (i == code.size() || code.get(i) == -1) {
                    if (!current.isEmpty()) {
                        all.add(current);
                    }
                    current = new ArrayList<>();
                } else {
                    current.add(code.get(i));
                }
            }
            return all;
        }

        int run(int limit) {
            if (limit < 0 || limit > 100000) {
                return -2;
            }
            kept = new ArrayList<>();
            steps = 0;
            TreeMap<Integer, Integer> first = new TreeMap<>(keptLetters);
            first.keySet().retainAll(code);
            if (new HashSet<>(first.values()).size() < first.size()) {
                return 0;
            }
            List<TreeMap<Integer, Integer>> level = new ArrayList<>();
            level.add(first);
            int needed = 0;
            for (List<Integer> codeword : codewords()) {
                List<TreeMap<Integer, Integer>> grown = new ArrayList<>();
                for (TreeMap<Integer, Integer> reading : level) {
                    for (String word : words) {
                        if (word.length() == codeword.size()) {
                            needed++;
                            if (needed > limit) {
                                steps = limit;
                                return -1;
                            }
                            TreeMap<Integer, Integer> more = join(reading, codeword, word);
                            if (more != null) {
                                grown.add(more);
                            }
                        }
                    }
                }
                level = grown;
            }
            steps = needed;
            level.sort((one, other) -> Arrays.compare(row(one), row(other)));
            kept = new ArrayList<>(level.subList(0, Math.min(200, level.size())));
            return level.size();
        }

        private static int[] row(TreeMap<Integer, Integer> reading) {
            return reading.values().stream().mapToInt(Integer::intValue).toArray();
        }

        private static TreeMap<Integer, Integer> join(TreeMap<Integer, Integer> reading,
                List<Integer> codeword, String word) {
            TreeMap<Integer, Integer> joined = new TreeMap<>(reading);
            for (int i = 0; i < word.length(); i++) {
                Integer before = joined.put(codeword.get(i), (int) word.charAt(i));
                if (before != null && before != word.charAt(i)) {
                    return null;
                }
            }
            return new HashSet<>(joined.values()).size() < joined.size() ? null : joined;
        }

        int letter(int k, int number) {
            return k < 0 || k >= kept.size() ? -1 : kept.get(k).getOrDefault(number, -1);
        }

        long rank(int k) {
            if (k < 0 || k >= kept.size()) {
                return 0;
            }
            long sum = 0;
            for (List<Integer> codeword : codewords()) {
                StringBuilder read = new StringBuilder();
                for (int number : codeword) {
                    read.append((char) letter(k, number));
                }
                sum += weight(read.toString());
            }
            return sum;
        }

        private long weight(String letters) {
            long sum = 0;
            for (int i = 0; i + 2 <= letters.length(); i++) {
                sum += weights.getOrDefault(letters.substring(i, i + 2), 0);
            }
            return sum;
        }

        int best() {
            int best = kept.isEmpty() ? -1 : 0;
            for (int k = kept.size() - 1; k >= 0; k--) {
                best = rank(k) >= rank(best) ? k : best;
            }
            return best;
        }

        int hint() {
            for (int number = 0; number < 26 && !kept.isEmpty(); number++) {
                HashSet<Integer> letters = new HashSet<>();
                for (TreeMap<Integer, Integer> reading : kept) {
                    letters.add(reading.get(number));
                }
                if (code.contains(number) && !keptLetters.containsKey(number) && letters.size() == 1) {
                    keptLetters.put(number, letters.iterator().next());
                    return number;
                }
            }
            return -1;
        }

        boolean plain(int u) {
            if (u < 'a' || u > 'z' || text.length() == 60) {
                return false;
            }
            text += (char) u;
            return true;
        }

        int shifted(int n, int i) {
            if (i < 0 || i >= text.length()) {
                return -1;
            }
            long place = text.charAt(i) - 'a' + (long) n;
            return 'a' + (int) ((place % 26 + 26) % 26);
        }

        int bestShift() {
            int best = 25;
            for (int shift = 25; shift >= 0; shift--) {
                best = shiftedWeight(shift) >= shiftedWeight(best) ? shift : best;
            }
            return best;
        }

        private long shiftedWeight(int shift) {
            StringBuilder moved = new StringBuilder();
            for (int i = 0; i < text.length(); i++) {
                moved.append((char) shifted(shift, i));
            }
            return weight(moved.toString());
        }

        int keyed(int word, int i) {
            if (word < 0 || word >= words.size() || i < 0) {
                return -1;
            }
            String key = words.get(word);
            return shifted(key.charAt(i % key.length()) - 'a', i);
        }

        /** The first of the shortest ways from each position on; null when there is none. */
        List<Integer> leastWay() {
            List<List<Integer>> ways = new ArrayList<>();
            for (int i = 0; i < text.length(); i++) {
                ways.add(null);
            }
            ways.add(new ArrayList<>());
            for (int i = text.length() - 1; i >= 0; i--) {
                for (int word = 0; word < words.size(); word++) {
                    if (text.startsWith(words.get(word), i)) {
                        List<Integer> rest = ways.get(i + words.get(word).length());
                        if (rest != null) {
                            List<Integer> way = new ArrayList<>();
                            way.add(word);
                            way.addAll(rest);
                            if (ways.get(i) == null || isLess(way, ways.get(i))) {
                                ways.set(i, way);
                            }
                        }
                    }
                }
            }
            return ways.get(0);
        }

        private static boolean isLess(List<Integer> one, List<Integer> other) {
            if (one.size() != other.size()) {
                return one.size() < other.size();
            }
            for (int i = 0; i < one.size(); i++) {
                if (!one.get(i).equals(other.get(i))) {
                    return one.get(i) < other.get(i);
                }
            }
            return false;
        }

        void clear() {
            code.clear();
            keptLetters.clear();
            kept = new ArrayList<>();
            text = "";
        }
    }
}
