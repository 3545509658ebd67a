/** A test for each promise: ordinary inputs, the edges that the document names, wrong inputs. */
public final class CodedLettersPromises extends Checks {
    public static void main(String[] args) {
        newObject();
        unit();
        word();
        wordAtTheLimit();
        sign();
        signForgets();
        keep();
        keepForgets();
        pair();
        runCountsSteps();
        runStopsAtTheLimit();
        runKeepsTheReadingsAhead();
        runReadsOneToOne();
        runWithKept();
        runWithOddCodes();
        steps();
        letter();
        rank();
        best();
        hint();
        codewords();
        plain();
        shifted();
        bestShift();
        keyed();
        breaks();
        breakAt();
        clear();
        dearRunsEnd();
        end();
    }

    private static void newObject() {
        CodedLetters x = new CodedLetters();
        due("1: no step yet", x.steps(), 0);
        due("1: no reading yet", x.best(), -1);
        due("1: no letter yet", x.letter(0, 0), -1);
        due("1: no rank yet", x.rank(0), 0);
        due("1: no hint yet", x.hint(), -1);
        due("1: no codewords", x.codewords(), 0);
        due("1: nothing collected", x.word(), -1);
        due("1: no plain", x.shifted(0, 0), -1);
        due("1: nothing to break", x.breaks(), 0);
        due("1: the first word is 0", add(x, "b"), 0);
        plainText(x, "ab");
        due("1: no word 1", x.keyed(1, 0), -1);
        due("1: all weights 0", x.bestShift(), 0);
        code(x, "0");
        due("1: nothing kept", x.run(10), 1);
        CodedLetters other = new CodedLetters();
        due("1: objects share nothing", other.codewords(), 0);
        due("1: objects share no words", add(other, "z"), 0);
    }

    private static void unit() {
        CodedLetters x = new CodedLetters();
        for (int u : new int[] {96, 123, 0, -1, 65, 97 + 256, Integer.MIN_VALUE, Integer.MAX_VALUE}) {
            due("2: unit(" + u + ") is no letter", x.unit(u), false);
        }
        due("2: what is no letter is not collected", x.word(), -1);
        due("2: a", x.unit('a'), true);
        due("2: z", x.unit('z'), true);
        due("2: wrong in between", x.unit('A'), false);
        due("2: az is a word", x.word(), 0);
        due("2: az again", add(x, "az"), 0);
        for (int i = 0; i < 8; i++) {
            due("2: letter " + i + " of 8", x.unit('a' + i), true);
        }
        due("2: the ninth", x.unit('i'), false);
        due("2: no letter behind eight", x.unit(0), false);
        due("2: eight letters", x.word(), 1);
        due("2: the ninth was left out", add(x, "abcdefgh"), 1);
        due("2: collecting goes on behind a word", x.unit('q'), true);
    }

    private static void word() {
        CodedLetters x = new CodedLetters();
        due("3: nothing collected", x.word(), -1);
        due("3: first", add(x, "ab"), 0);
        due("3: nothing is collected then", x.word(), -1);
        due("3: second", add(x, "ba"), 1);
        due("3: a beginning is another word", add(x, "a"), 2);
        due("3: a longer one is another word", add(x, "abc"), 3);
        due("3: there already", add(x, "ba"), 1);
        due("3: nothing is collected behind a word that is there", x.word(), -1);
        due("3: the next number", add(x, "b"), 4);
        code(x, "0 - 1");
        due("3: run", x.run(100), 2);
        due("3: a word comes", add(x, "c"), 5);
        due("3: what was found stays", x.letter(1, 0), 'b');
        due("3: no more than was found", x.letter(2, 0), -1);
        due("3: a new run knows it", x.run(100), 3 * 2);
    }

    private static void wordAtTheLimit() {
        CodedLetters x = new CodedLetters();
        for (int i = 0; i < 60; i++) {
            due("3: word " + i, add(x, sixtyWord(i)), i);
        }
        due("3: the sixty-first", add(x, "zz"), -1);
        due("3: nothing is collected behind a refusal", x.word(), -1);
        due("3: one that is there, at sixty", add(x, sixtyWord(59)), 59);
        due("3: the first, at sixty", add(x, sixtyWord(0)), 0);
        due("3: the refused one is no word", add(x, "zz"), -1);
        plainText(x, "zz");
        due("3: the refused one breaks nothing", x.breaks(), -1);
        due("3: the last word keys", x.keyed(59, 1), 'b');
        due("3: there is no word 60", x.keyed(60, 0), -1);
    }

    private static void sign() {
        CodedLetters x = new CodedLetters();
        for (int v : new int[] {-2, 26, 97, Integer.MIN_VALUE, Integer.MAX_VALUE}) {
            due("4: sign(" + v + ")", x.sign(v), false);
        }
        due("4: nothing came", x.codewords(), 0);
        due("4: gap", x.sign(-1), true);
        due("4: 0", x.sign(0), true);
        due("4: 25", x.sign(25), true);
        due("4: one codeword", x.codewords(), 1);
        for (int i = 3; i < 60; i++) {
            due("4: sign " + i, x.sign(i % 2 == 0 ? 7 : -1), true);
        }
        due("4: sixty are there", x.sign(7), false);
        due("4: sixty are there, a gap", x.sign(-1), false);
        due("4: codewords of sixty signs", x.codewords(), 1 + 28);
    }

    private static void signForgets() {
        CodedLetters x = withWords("ab", "b");
        code(x, "1 2");
        due("4: run", x.run(10), 1);
        due("4: wrong sign", x.sign(26), false);
        due("4: a wrong sign does nothing", x.letter(0, 1), 'a');
        due("4: a gap", x.sign(-1), true);
        due("4: what was found is gone", x.letter(0, 1), -1);
        due("4: no best", x.best(), -1);
        due("4: steps stay", x.steps(), 1);
        for (int i = 3; i < 60; i++) {
            x.sign(-1);
        }
        due("4: run at sixty signs", x.run(10), 1);
        due("4: sixty-first", x.sign(3), false);
        due("4: a refused sign does nothing", x.best(), 0);
    }

    private static void keep() {
        CodedLetters x = withWords("ab", "cd", "ce");
        code(x, "3 4");
        int[][] refused = {{-1, 'a'}, {26, 'a'}, {3, 96}, {3, 123}, {3, -1}, {3, 1}, {-1, 0}, {26, 0},
            {Integer.MAX_VALUE, 'a'}, {Integer.MIN_VALUE, 'a'}, {3, Integer.MAX_VALUE},
            {3, Integer.MIN_VALUE}};
        for (int[] call : refused) {
            due("5: keep(" + call[0] + ", " + call[1] + ")", x.keep(call[0], call[1]), false);
        }
        due("5: nothing kept", x.run(10), 3);
        due("5: keep", x.keep(3, 'c'), true);
        due("5: kept", x.run(10), 2);
        due("5: kept letter", x.letter(0, 3), 'c');
        due("5: wrong letter leaves it", x.keep(3, 96), false);
        due("5: still kept", x.run(10), 2);
        due("5: keep another", x.keep(3, 'a'), true);
        due("5: the other", x.run(10), 1);
        due("5: 0 lets go", x.keep(3, 0), true);
        due("5: let go", x.run(10), 3);
        due("5: 0 for one that is not kept", x.keep(25, 0), true);
        due("5: edges", x.keep(0, 'z') && x.keep(25, 'a'), true);
    }

    private static void keepForgets() {
        CodedLetters x = withWords("ab");
        code(x, "0 1");
        due("5: run", x.run(10), 1);
        due("5: wrong", x.keep(26, 'a') || x.keep(0, 1), false);
        due("5: a wrong one does nothing", x.best(), 0);
        due("5: keep a number that is not in the code", x.keep(9, 'q'), true);
        due("5: what was found is gone", x.best(), -1);
        due("5: run again", x.run(10), 1);
        due("5: let go what is not kept", x.keep(8, 0), true);
        due("5: gone by that too", x.letter(0, 0), -1);
    }

    private static void pair() {
        CodedLetters x = new CodedLetters();
        int[][] refused = {{96, 'b', 1}, {123, 'b', 1}, {'a', 96, 1}, {'a', 123, 1}, {'a', 'b', 1001},
            {'a', 'b', -1001}, {'a', 'b', Integer.MIN_VALUE}, {'a', 'b', Integer.MAX_VALUE},
            {Integer.MIN_VALUE, 'b', 1}, {'a', Integer.MAX_VALUE, 1}};
        add(x, "ab");
        code(x, "0 1");
        x.run(10);
        for (int[] call : refused) {
            due("6: refused", x.pair(call[0], call[1], call[2]), false);
            due("6: refused does nothing", x.rank(0), 0);
        }
        due("6: 1000", x.pair('a', 'b', 1000), true);
        due("6: weight", x.rank(0), 1000);
        due("6: refused behind", x.pair('a', 'b', 1001), false);
        due("6: weight stays", x.rank(0), 1000);
        due("6: -1000", x.pair('a', 'b', -1000), true);
        due("6: weight anew", x.rank(0), -1000);
        due("6: the other way round", x.pair('b', 'a', 5), true);
        due("6: is another pair", x.rank(0), -1000);
        due("6: edges", x.pair('z', 'z', 0) && x.pair('a', 'a', 0), true);
        due("6: what was found stays", x.best(), 0);
    }

    private static void runCountsSteps() {
        CodedLetters x = withWords("ab", "cd", "a", "b", "aa");
        code(x, "0 1 - 0 - 1");
        // Three words of two letters; ab and cd lead on to two each, a alone leads on to two more.
        due("7: run", x.run(100), 1);
        due("7: steps", x.steps(), 3 + 2 * 2 + 2);
        due("7: letters", x.letter(0, 0) == 'a' && x.letter(0, 1) == 'b', true);
        due("7: the same again", x.run(100), 1);
        due("7: the same steps", x.steps(), 9);
        due("7: the same reading is kept once", x.letter(1, 0), -1);
        CodedLetters y = withWords("a", "b");
        code(y, "0 - 0");
        due("7: the same codeword twice", y.run(100), 2);
        due("7: its steps", y.steps(), 2 + 4);
    }

    private static void runStopsAtTheLimit() {
        CodedLetters x = withWords("ab", "cd", "a", "b", "aa");
        code(x, "0 1 - 0 - 1");
        due("7: just enough", x.run(9), 1);
        due("7: just enough, steps", x.steps(), 9);
        due("7: one too few", x.run(8), -1);
        due("7: one too few, steps", x.steps(), 8);
        due("7: nothing is found then", x.best(), -1);
        due("7: nor a letter", x.letter(0, 0), -1);
        due("7: none", x.run(0), -1);
        due("7: none, steps", x.steps(), 0);
        due("7: run", x.run(9), 1);
        for (int steps : new int[] {-1, 100001, Integer.MIN_VALUE, Integer.MAX_VALUE}) {
            due("7: run(" + steps + ")", x.run(steps), -2);
        }
        due("7: -2 does nothing", x.letter(0, 0), 'a');
        due("7: -2 leaves the steps", x.steps(), 9);
        due("7: the most", x.run(100000), 1);
    }

    private static void runKeepsTheReadingsAhead() {
        CodedLetters x = new CodedLetters();
        for (int i = 25; i >= 0; i--) {
            add(x, String.valueOf((char) ('a' + i)));
        }
        code(x, "9 - 4");
        due("7: all of them", x.run(1000), 26 * 25);
        due("7: steps", x.steps(), 26 + 26 * 26);
        // The least number is 4, though it has its turn last: its letters tell which is ahead.
        due("7: first, 4", x.letter(0, 4), 'a');
        due("7: first, 9", x.letter(0, 9), 'b');
        due("7: second, 4", x.letter(1, 4), 'a');
        due("7: second, 9", x.letter(1, 9), 'c');
        due("7: behind a, 4", x.letter(25, 4), 'b');
        due("7: behind a, 9", x.letter(25, 9), 'a');
        due("7: last, 4", x.letter(199, 4), 'h');
        due("7: last, 9", x.letter(199, 9), 'z');
        due("7: no more are kept", x.letter(200, 4), -1);
        due("7: fewer then", x.keep(4, 'q'), true);
        due("7: how many then", x.run(1000), 25);
        due("7: nothing of the earlier ones", x.letter(25, 4), -1);
    }

    private static void runReadsOneToOne() {
        CodedLetters x = withWords("aa", "ab", "ba");
        code(x, "0 1");
        due("7: two numbers, two letters", x.run(10), 2);
        due("7: not aa", x.letter(0, 0) == 'a' && x.letter(0, 1) == 'b', true);
        CodedLetters y = withWords("aa", "ab", "ba");
        code(y, "0 0");
        due("7: one number, one letter", y.run(10), 1);
        due("7: aa", y.letter(0, 0), 'a');
        CodedLetters z = withWords("ab", "cb", "cd");
        code(z, "0 1 - 2 3");
        due("7: not the same letter in another codeword", z.run(100), 2);
        due("7: all were tried", z.steps(), 3 + 9);
    }

    private static void runWithKept() {
        CodedLetters x = withWords("ab", "cd");
        code(x, "0 1");
        x.keep(0, 'a');
        x.keep(1, 'a');
        due("7: two kept for one letter", x.run(10), 0);
        due("7: no step is made", x.steps(), 0);
        due("7: not even with none allowed", x.run(0), 0);
        x.keep(1, 0);
        due("7: one kept", x.run(10), 1);
        due("7: all words are tried though", x.steps(), 2);
        x.keep(0, 'b');
        due("7: no such reading", x.run(10), 0);
        due("7: all tried", x.steps(), 2);
        due("7: none kept then", x.best(), -1);
        x.keep(0, 0);
        x.keep(5, 'a');
        x.keep(6, 'a');
        due("7: kept for numbers that are not in the code", x.run(10), 2);
        due("7: such have no letter", x.letter(0, 5), -1);
        x.keep(1, 'a');
        due("7: a kept letter is no other number's", x.run(10), 0);
    }

    private static void runWithOddCodes() {
        CodedLetters x = withWords("ab");
        due("7: no code", x.run(0), 1);
        due("7: no code, steps", x.steps(), 0);
        due("7: no code, best", x.best(), 0);
        due("7: no code, letter", x.letter(0, 0), -1);
        code(x, "- - -");
        due("7: gaps alone", x.run(0), 1);
        code(x, "0");
        due("7: no word of that length", x.run(0), 0);
        due("7: no word of that length, steps", x.steps(), 0);
        CodedLetters y = withWords("abcdefgh");
        code(y, "0 1 2 3 4 5 6 7");
        due("7: eight letters", y.run(1), 1);
        y.sign(8);
        due("7: nine numbers", y.run(1), 0);
        due("7: nine numbers, steps", y.steps(), 0);
        CodedLetters z = withWords("a");
        for (int i = 0; i < 60; i++) {
            z.sign(i % 2 == 0 ? 3 : -1);
        }
        due("7: thirty codewords", z.run(30), 1);
        due("7: thirty codewords, steps", z.steps(), 30);
        due("7: thirty codewords, letter", z.letter(0, 3), 'a');
    }

    private static void steps() {
        CodedLetters x = withWords("a", "b", "c");
        code(x, "7");
        x.run(100);
        due("8: steps", x.steps(), 3);
        x.sign(-1);
        x.keep(7, 'a');
        x.clear();
        due("8: they stay until the next run", x.steps(), 3);
        x.run(100);
        due("8: the latest run's", x.steps(), 0);
    }

    private static void letter() {
        CodedLetters x = withWords("ba", "ab");
        code(x, "25 0");
        due("9: run", x.run(10), 2);
        due("9: reading 0, 0", x.letter(0, 0), 'a');
        due("9: reading 0, 25", x.letter(0, 25), 'b');
        due("9: reading 1, 0", x.letter(1, 0), 'b');
        due("9: reading 1, 25", x.letter(1, 25), 'a');
        int[][] none = {{-1, 0}, {2, 0}, {0, 1}, {0, -1}, {0, 26}, {Integer.MAX_VALUE, 0},
            {Integer.MIN_VALUE, 0}, {0, Integer.MAX_VALUE}, {0, Integer.MIN_VALUE}};
        for (int[] call : none) {
            due("9: letter(" + call[0] + ", " + call[1] + ")", x.letter(call[0], call[1]), -1);
        }
    }

    private static void rank() {
        CodedLetters x = withWords("abab", "ba");
        code(x, "0 1 0 1 - 1 0");
        x.pair('a', 'b', 7);
        x.pair('b', 'a', -100);
        x.pair('b', 'b', 1000);
        due("10: run", x.run(10), 1);
        due("10: within codewords, not over a gap", x.rank(0), 7 - 100 + 7 - 100);
        x.pair('b', 'a', 3);
        due("10: by the weights as they are", x.rank(0), 20);
        for (int k : new int[] {-1, 1, 200, Integer.MAX_VALUE, Integer.MIN_VALUE}) {
            due("10: rank(" + k + ")", x.rank(k), 0);
        }
        x.sign(-1);
        due("10: gone", x.rank(0), 0);
    }

    private static void best() {
        CodedLetters x = withWords("ab", "cd", "ef");
        code(x, "0 1");
        due("11: none", x.best(), -1);
        x.run(10);
        due("11: all alike", x.best(), 0);
        x.pair('c', 'd', 1);
        x.pair('e', 'f', 1);
        due("11: of alike ones the first", x.best(), 1);
        x.pair('e', 'f', 2);
        due("11: the greatest", x.best(), 2);
        x.pair('a', 'b', -1);
        x.pair('c', 'd', -3);
        x.pair('e', 'f', -2);
        due("11: all below 0", x.best(), 0);
        x.pair('a', 'b', -9);
        due("11: the greatest below 0", x.best(), 2);
    }

    private static void hint() {
        CodedLetters x = withWords("abc", "abd", "eb");
        code(x, "5 3 8");
        due("12: no reading", x.hint(), -1);
        due("12: run", x.run(10), 2);
        due("12: the least number", x.hint(), 3);
        due("12: what was found stays", x.letter(1, 8), 'd');
        due("12: the next", x.hint(), 5);
        due("12: not where they differ", x.hint(), -1);
        x.sign(-1);
        x.sign(4);
        x.sign(3);
        due("12: gone", x.hint(), -1);
        add(x, "ec");
        due("12: the hints are kept", x.run(100), 2);
        due("12: not those kept, but the next", x.hint(), 4);
        due("12: 3 let go", x.keep(3, 0), true);
        due("12: no reading any more", x.hint(), -1);
        x.run(100);
        due("12: 3 again, though not 5 and 4", x.hint(), 3);
        due("12: none behind", x.hint(), -1);
        CodedLetters w = withWords("ab");
        code(w, "25 0");
        due("12: run for the edges", w.run(10), 1);
        due("12: the number 0", w.hint(), 0);
        due("12: the number 25", w.hint(), 25);
        CodedLetters y = withWords("ab");
        code(y, "0 1");
        y.keep(0, 'b');
        due("12: no reading found", y.run(10), 0);
        due("12: no hint then", y.hint(), -1);
        CodedLetters z = withWords("ab", "cd");
        code(z, "0 1");
        z.keep(0, 'c');
        z.run(10);
        due("12: the first is kept already", z.hint(), 1);
        due("12: it is kept as the readings have it", z.keep(0, 0), true);
        due("12: run with it", z.run(10), 1);
        due("12: its letter", z.letter(0, 1), 'd');
    }

    private static void codewords() {
        CodedLetters x = new CodedLetters();
        int[] signs = {-1, -1, 0, 1, -1, -1, 1, -1, 25, 25};
        int[] counts = {0, 0, 1, 1, 1, 1, 2, 2, 3, 3};
        for (int i = 0; i < signs.length; i++) {
            x.sign(signs[i]);
            due("13: behind sign " + i, x.codewords(), counts[i]);
        }
        x.clear();
        x.sign(4);
        due("13: anew", x.codewords(), 1);
    }

    private static void plain() {
        CodedLetters x = new CodedLetters();
        for (int u : new int[] {96, 123, 0, -1, Integer.MIN_VALUE, Integer.MAX_VALUE}) {
            due("14: plain(" + u + ")", x.plain(u), false);
        }
        due("14: nothing came", x.shifted(0, 0), -1);
        for (int i = 0; i < 60; i++) {
            due("14: plain " + i, x.plain('a' + i % 26), true);
        }
        due("14: sixty are there", x.plain('a'), false);
        due("14: the last", x.shifted(0, 59), 'a' + 59 % 26);
        due("14: none behind", x.shifted(0, 60), -1);
    }

    private static void shifted() {
        CodedLetters x = new CodedLetters();
        plainText(x, "az");
        due("15: by 0", x.shifted(0, 0), 'a');
        due("15: by 1", x.shifted(1, 0), 'b');
        due("15: round", x.shifted(1, 1), 'a');
        due("15: by 25", x.shifted(25, 1), 'y');
        due("15: by 26", x.shifted(26, 1), 'z');
        due("15: by -1", x.shifted(-1, 0), 'z');
        due("15: by -27", x.shifted(-27, 1), 'y');
        due("15: by the greatest", x.shifted(Integer.MAX_VALUE, 1), 'a' + (25 + 2147483647L % 26) % 26);
        due("15: by the least", x.shifted(Integer.MIN_VALUE, 0), 'a' + (26 - 2147483648L % 26) % 26);
        for (int i : new int[] {-1, 2, Integer.MAX_VALUE, Integer.MIN_VALUE}) {
            due("15: letter " + i, x.shifted(0, i), -1);
        }
    }

    private static void bestShift() {
        CodedLetters x = new CodedLetters();
        x.pair('d', 'e', 4);
        due("16: empty", x.bestShift(), 0);
        x.plain('y');
        due("16: one letter", x.bestShift(), 0);
        x.plain('z');
        due("16: round the alphabet", x.bestShift(), 5);
        x.pair('k', 'l', 4);
        due("16: of alike ones the least", x.bestShift(), 5);
        x.pair('k', 'l', 5);
        due("16: the greatest", x.bestShift(), 12);
        x.pair('x', 'y', 6);
        due("16: by 25", x.bestShift(), 25);
        x.pair('e', 'd', 900);
        due("16: the other way round is another pair", x.bestShift(), 25);
        x.plain('y');
        due("16: all letters side by side", x.bestShift(), 5);
        CodedLetters y = new CodedLetters();
        plainText(y, "aa");
        for (int i = 0; i < 26; i++) {
            y.pair('a' + i, 'a' + i, i == 3 ? -1 : -2);
        }
        due("16: all below 0", y.bestShift(), 3);
    }

    private static void keyed() {
        CodedLetters x = withWords("abz", "c");
        plainText(x, "aaaazzzz");
        String due = "abzaayza";
        for (int i = 0; i < due.length(); i++) {
            due("17: letter " + i, x.keyed(0, i), due.charAt(i));
        }
        due("17: a word of one letter", x.keyed(1, 7), 'b');
        int[][] none = {{0, 8}, {0, -1}, {2, 0}, {-1, 0}, {60, 0}, {0, Integer.MIN_VALUE},
            {0, Integer.MAX_VALUE}, {Integer.MIN_VALUE, 0}, {Integer.MAX_VALUE, 0}};
        for (int[] call : none) {
            due("17: keyed(" + call[0] + ", " + call[1] + ")", x.keyed(call[0], call[1]), -1);
        }
    }

    private static void breaks() {
        CodedLetters x = withWords("ab", "abab", "b");
        due("18: empty", x.breaks(), 0);
        plainText(x, "abababab");
        due("18: the fewest", x.breaks(), 2);
        x.plain('b');
        due("18: one more", x.breaks(), 3);
        x.plain('a');
        due("18: it can't be", x.breaks(), -1);
        add(x, "ba");
        due("18: by a new word", x.breaks(), 3);
        CodedLetters y = withWords("aaaa", "aaa");
        plainText(y, "aaaaa");
        due("18: too long by one", y.breaks(), -1);
        y.plain('a');
        due("18: not the longest first", y.breaks(), 2);
        CodedLetters z = withWords("a");
        for (int i = 0; i < 60; i++) {
            z.plain('a');
        }
        due("18: sixty words", z.breaks(), 60);
        due("18: the sixtieth", z.breakAt(59), 0);
        due("18: none behind it", z.breakAt(60), -1);
    }

    private static void breakAt() {
        CodedLetters x = withWords("abc", "ab", "cd", "d", "a");
        due("19: empty", x.breakAt(0), -1);
        plainText(x, "abcd");
        due("19: two", x.breaks(), 2);
        due("19: the lesser number first", x.breakAt(0), 0);
        due("19: then the rest", x.breakAt(1), 3);
        due("19: none behind", x.breakAt(2), -1);
        CodedLetters y = withWords("ab", "abc", "cd", "d", "a");
        plainText(y, "abcd");
        due("19: the lesser number first, the other one", y.breakAt(0), 0);
        due("19: then its rest", y.breakAt(1), 2);
        CodedLetters z = withWords("a", "abc", "b", "cab", "c");
        plainText(z, "abccab");
        due("19: fewest", z.breaks(), 2);
        due("19: a lesser word that needs more is not it", z.breakAt(0), 1);
        due("19: its rest", z.breakAt(1), 3);
        for (int k : new int[] {-1, 2, Integer.MAX_VALUE, Integer.MIN_VALUE}) {
            due("19: breakAt(" + k + ")", z.breakAt(k), -1);
        }
        z.plain('x');
        due("19: it can't be", z.breakAt(0), -1);
        due("19: nor before it", z.breakAt(-1), -1);
    }

    private static void clear() {
        CodedLetters x = withWords("ab", "ba");
        code(x, "0 1");
        x.keep(0, 'b');
        x.pair('b', 'a', 9);
        plainText(x, "ab");
        due("20: run", x.run(10), 1);
        x.unit('c');
        x.clear();
        due("20: no code", x.codewords(), 0);
        due("20: no reading kept", x.best(), -1);
        due("20: no letter", x.letter(0, 0), -1);
        due("20: no plain", x.breaks(), 0);
        due("20: no plain letter", x.shifted(0, 0), -1);
        due("20: what is collected stays", x.word(), 2);
        due("20: the word is c", add(x, "c"), 2);
        due("20: words stay", add(x, "ba"), 1);
        code(x, "0 1");
        due("20: nothing kept", x.run(10), 2);
        due("20: weights stay", x.rank(1), 9);
        plainText(x, "ab");
        due("20: words and plain", x.breakAt(0), 0);
        x.clear();
        code(x, "5 6");
        x.run(10);
        due("20: the earlier numbers are not in the code", x.letter(0, 0), -1);
    }

    /** The dearest object there can be: it must answer 500 calls in a moment. */
    private static void dearRunsEnd() {
        CodedLetters x = new CodedLetters();
        for (int i = 25; i >= 0; i--) {
            add(x, String.valueOf((char) ('a' + i)));
        }
        code(x, "0 - 1 - 2");
        for (int i = 0; i < 200; i++) {
            due("7: 26 * 25 * 24", x.run(100000), 15600);
        }
        due("7: the first", x.letter(0, 2), 'c');
        for (int number = 3; number < 26; number++) {
            x.sign(-1);
            x.sign(number);
        }
        for (int i = 0; i < 100; i++) {
            due("7: too many", x.run(100000), -1);
        }
        due("7: too many, steps", x.steps(), 100000);
    }
}
