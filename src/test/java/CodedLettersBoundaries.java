/**
 * A test for each sentence of the document that names a boundary: too small, too large, empty, full,
 * round the alphabet, a refused call. The sentence stands over its test.
 */
public final class CodedLettersBoundaries extends Checks {
    public static void main(String[] args) {
        theLastCallCounts();
        readingsOfTheTerms();
        newObject();
        unit();
        word();
        sign();
        keep();
        pair();
        run();
        steps();
        letter();
        rank();
        best();
        hint();
        codewords();
        plain();
        shifted();
        bestShift();
        keyed();
        breaks();
        breakAt();
        clear();
        end();
    }

    // "An object is used for at most 512 calls after it has been made"
    private static void theLastCallCounts() {
        CodedLetters x = withWords("ab");
        code(x, "0 1");
        for (int call = 5; call < 511; call++) {
            due("call " + call, x.run(1), 1);
        }
        due("the 512th call", x.letter(0, 1), 'b');
    }

    // Terms

    private static void readingsOfTheTerms() {
        wordsOfEachLength();
        codewordsStandBetweenGapsOrEnds();
        noTwoNumbersStandForOneLetter();
        allTwentySixNumbers();
        codeWithoutNumbers();
        theLeastNumberInWhichTheyDiffer();
        eachReadingStandsInItsPlace();
    }

    // "of 1 to 8 letters"
    private static void wordsOfEachLength() {
        String letters = "zyxwvuts";
        for (int length = 1; length <= 8; length++) {
            CodedLetters x = new CodedLetters();
            for (int i = 1; i <= 8; i++) {
                due("Terms: a word of " + i, add(x, letters.substring(0, i)), i - 1);
            }
            for (int i = 0; i < length; i++) {
                x.sign(i);
            }
            due("Terms: a codeword of " + length, x.run(1), 1);
            due("Terms: its letters", read(x, 0, 0, 1, 2, 3, 4, 5, 6, 7, 8),
                (letters.substring(0, length) + "?????????").substring(0, 9));
        }
        CodedLetters x = withWords("zyxwvuts");
        code(x, "0 1 2 3 4 5 6 7 8");
        due("Terms: no word has nine", x.run(1), 0);
    }

    // "What stands between gaps (or the ends) is a CODEWORD, if it has at least one number."
    private static void codewordsStandBetweenGapsOrEnds() {
        String[] codes = {"0 1 - 2", "- 0 1 - 2", "0 1 - 2 -", "- - 0 1 - - - 2 - -"};
        for (String signs : codes) {
            CodedLetters x = withWords("ab", "c");
            code(x, signs);
            due("Terms: codewords of " + signs, x.codewords(), 2);
            due("Terms: a reading of " + signs, x.run(2), 1);
            due("Terms: letters of " + signs, read(x, 0, 0, 1, 2), "abc");
        }
        CodedLetters x = withWords("ab", "c");
        code(x, "0 1 2");
        due("Terms: without a gap it is one codeword", x.run(9), 0);
    }

    // "no two numbers the same one"
    private static void noTwoNumbersStandForOneLetter() {
        CodedLetters x = withWords("aa");
        code(x, "0 1");
        due("Terms: two numbers in one codeword", x.run(9), 0);
        CodedLetters y = withWords("a");
        code(y, "0 - 1");
        due("Terms: two numbers in two codewords", y.run(9), 0);
        CodedLetters z = withWords("ab");
        code(z, "0 0");
        due("Terms: nor one number for two letters", z.run(9), 0);
        due("Terms: though it was tried", z.steps(), 1);
    }

    // "numbers 0 to 25", with a letter for each
    private static void allTwentySixNumbers() {
        CodedLetters x = withWords("abcdefgh", "ijklmnop", "qrstuvwx", "yz");
        for (int number = 0; number < 26; number++) {
            due("Terms: number " + number, x.sign(number), true);
            if (number % 8 == 7) {
                x.sign(-1);
            }
        }
        due("Terms: all numbers by words alone", x.run(100), 3 * 2);
        due("Terms: all numbers by words alone, steps", x.steps(), 3 + 3 * 3 + 6 * 3 + 6);
        readsTheAlphabet(x);
        x.keep(0, 'a');
        x.keep(8, 'i');
        x.keep(16, 'q');
        due("Terms: all numbers, some kept", x.run(10), 1);
        due("Terms: all numbers, some kept, steps", x.steps(), 3 + 3 + 3 + 1);
        readsTheAlphabet(x);
        for (int number = 0; number < 26; number++) {
            x.keep(number, 'a' + number);
        }
        due("Terms: all numbers kept", x.run(10), 1);
        readsTheAlphabet(x);
    }

    private static void readsTheAlphabet(CodedLetters x) {
        for (int number = 0; number < 26; number++) {
            due("Terms: letter of " + number, x.letter(0, number), 'a' + number);
        }
    }

    // "(A code without numbers has one reading.)"
    private static void codeWithoutNumbers() {
        String[] codes = {"", "-", "- - -"};
        for (String signs : codes) {
            CodedLetters x = withWords("a", "b");
            x.keep(0, 'a');
            x.keep(1, 'a');
            if (!signs.isEmpty()) {
                code(x, signs);
            }
            due("Terms: one reading", x.run(0), 1);
            due("Terms: without a step", x.steps(), 0);
            due("Terms: it is kept", x.best(), 0);
            due("Terms: its rank", x.rank(0), 0);
            due("Terms: it has no letter", x.letter(0, 0), -1);
            due("Terms: nor a hint", x.hint(), -1);
        }
        due("Terms: without words too", new CodedLetters().run(100000), 1);
    }

    // "which has the lesser letter for the least number in which they differ"
    private static void theLeastNumberInWhichTheyDiffer() {
        CodedLetters x = withWords("zab", "zba", "yzz", "yax");
        code(x, "25 1 0");
        due("Terms: run", x.run(4), 3);
        due("Terms: by 0 first", read(x, 0, 0, 1, 25), "abz");
        due("Terms: b behind a", read(x, 1, 0, 1, 25), "baz");
        due("Terms: x last", read(x, 2, 0, 1, 25), "xay");
        CodedLetters y = withWords("bc", "ad", "ac");
        code(y, "24 25");
        due("Terms: run at the last numbers", y.run(3), 3);
        due("Terms: alike in 24, so by 25", read(y, 0, 24, 25), "ac");
        due("Terms: and then", read(y, 1, 24, 25), "ad");
        due("Terms: b last", read(y, 2, 24, 25), "bc");
    }

    // "Of two readings that is ahead ..": wherever the words come from
    private static void eachReadingStandsInItsPlace() {
        for (int leap = 1; leap < 26; leap += leap == 11 ? 4 : 2) {
            CodedLetters x = new CodedLetters();
            for (int i = 0; i < 26; i++) {
                due("Terms: word " + i, add(x, "" + (char) ('a' + (i * leap + 5) % 26)), i);
            }
            code(x, "3");
            due("Terms: 26 readings", x.run(26), 26);
            for (int k = 0; k < 26; k++) {
                due("Terms: reading " + k + " by leaps of " + leap, x.letter(k, 3), 'a' + k);
            }
        }
    }

    // Promise 1

    private static void newObject() {
        nothingIsKeptInANewObject();
        allWeightsAreZero();
        CodedLetters x = new CodedLetters();
        due("1: the plain is empty", x.breaks(), 0);
        due("1: no word can be its key", x.keyed(0, 0), -1);
        due("1: no code", x.codewords(), 0);
        due("1: nothing collected, no words", x.word(), -1);
        plainText(x, "a");
        due("1: there are no words", x.breaks(), -1);
    }

    // "nothing kept"
    private static void nothingIsKeptInANewObject() {
        for (int number = 0; number < 26; number++) {
            CodedLetters x = withWords("a", "z");
            x.sign(number);
            due("1: nothing is kept for " + number, x.run(2), 2);
        }
    }

    // "all weights 0"
    private static void allWeightsAreZero() {
        for (int a = 'a'; a <= 'z'; a++) {
            for (int b = 'a'; b <= 'z'; b++) {
                CodedLetters x = readAs(a, b);
                due("1: weight of " + (char) a + (char) b, x.rank(0), 0);
                due("6: any pair can be weighed", x.pair(a, b, 7), true);
                due("6: and has its weight", x.rank(0), 7);
                due("6: the other way round", x.pair(b, a, -9), true);
                due("6: is another pair", x.rank(0), a == b ? -9 : 7);
            }
        }
    }

    /** An object with one reading of two letters side by side. */
    private static CodedLetters readAs(int a, int b) {
        CodedLetters x = withWords("" + (char) a + (char) b);
        code(x, a == b ? "0 0" : "0 1");
        due("one reading", x.run(1), 1);
        return x;
    }

    // Promise 2

    private static void unit() {
        unitThatIsNoLetter();
        unitBehindEight();
    }

    // "false, doing nothing, when it is none"
    private static void unitThatIsNoLetter() {
        for (int u = -300; u <= 700; u++) {
            oneUnit(u);
        }
        for (int u : FAR) {
            oneUnit(u);
        }
    }

    private static void oneUnit(int u) {
        CodedLetters x = new CodedLetters();
        due("2: unit(" + u + ")", x.unit(u), isLetter(u));
        due("2: what stands alone", x.word(), isLetter(u) ? 0 : -1);
        CodedLetters y = new CodedLetters();
        y.unit('a');
        y.unit(u);
        y.unit('z');
        due("2: a word", y.word(), 0);
        due("2: without unit(" + u + ")", add(y, "az"), isLetter(u) ? 1 : 0);
    }

    // "or there are 8"
    private static void unitBehindEight() {
        CodedLetters x = new CodedLetters();
        collect(x, "abcdefg");
        due("2: the eighth", x.unit('z'), true);
        due("2: the ninth", x.unit('a'), false);
        due("2: the ninth again", x.unit('z'), false);
        due("2: neither letter nor room", x.unit(96), false);
        due("2: the word", x.word(), 0);
        due("2: it has the first eight", add(x, "abcdefgz"), 0);
        collect(x, "hgfedcba");
        due("2: eight again behind a word", x.unit('a'), false);
        due("2: the second word", x.word(), 1);
    }

    // Promise 3

    private static void word() {
        wordThatIsThere();
        wordOfNothing();
        wordWhenThereAreSixty();
        nothingIsCollectedThen();
        whatWasFoundStaysByAWord();
    }

    // "that which it has when it is there", "no two the same"
    private static void wordThatIsThere() {
        String[] texts = {"a", "aa", "aaaaaaaa", "aaaaaaa", "b", "aaaaaaab", "baaaaaaa", "ab", "ba"};
        CodedLetters x = withWords(texts);
        for (int i = texts.length - 1; i >= 0; i--) {
            due("3: again " + texts[i], add(x, texts[i]), i);
        }
        due("3: they took no numbers", add(x, "z"), texts.length);
    }

    // "-1 when nothing is collected"
    private static void wordOfNothing() {
        CodedLetters x = new CodedLetters();
        due("3: nothing collected", x.word(), -1);
        due("3: and again", x.word(), -1);
        due("3: it took no number", add(x, "a"), 0);
        x.unit(96);
        due("3: a refused letter is nothing", x.word(), -1);
        due("3: nor did that", add(x, "b"), 1);
    }

    // "or there are 60"
    private static void wordWhenThereAreSixty() {
        CodedLetters x = new CodedLetters();
        addSixtyWords(x);
        due("3: the sixty-first", add(x, "zz"), -1);
        due("3: of one letter", add(x, "a"), -1);
        due("3: nothing collected", x.word(), -1);
        due("3: the first is there", add(x, sixtyWord(0)), 0);
        due("3: the sixtieth is there", add(x, sixtyWord(59)), 59);
        plainText(x, "zz");
        due("3: the sixty-first is no word", x.breaks(), -1);
        due("3: nor has it a number", x.keyed(60, 0), -1);
        due("3: the sixtieth has", x.keyed(59, 0), 's');
        code(x, "0 1");
        due("3: sixty are tried", x.run(100), 57);
        due("3: and no more", x.steps(), 60);
        x.clear();
        due("3: clear makes no room", add(x, "zz"), -1);
    }

    // "Nothing is collected then, in any case."
    private static void nothingIsCollectedThen() {
        CodedLetters x = new CodedLetters();
        due("3: a new word", add(x, "ab"), 0);
        due("3: nothing is collected behind it", x.word(), -1);
        due("3: there already", add(x, "ab"), 0);
        due("3: nothing is collected behind that", x.word(), -1);
        due("3: the next begins anew", add(x, "c"), 1);
        CodedLetters y = new CodedLetters();
        addSixtyWords(y);
        due("3: refused", add(y, "zzzzzzzz"), -1);
        collect(y, "yyyyyyyy");
        due("3: eight came behind a refusal, not nine", y.unit('y'), false);
        due("3: refused again", y.word(), -1);
        due("3: only its own letters", add(y, sixtyWord(7)), 7);
    }

    // "(What was found stays.)"
    private static void whatWasFoundStaysByAWord() {
        CodedLetters x = new CodedLetters();
        for (int i = 0; i < 59; i++) {
            add(x, sixtyWord(i));
        }
        code(x, "0 1");
        due("3: run", x.run(59), 56);
        String[] texts = {"", sixtyWord(1), "q", "zz"};
        int[] numbers = {-1, 1, 59, -1};
        for (int i = 0; i < texts.length; i++) {
            due("3: word " + texts[i], add(x, texts[i]), numbers[i]);
            due("3: the first stays", read(x, 0, 0, 1), "ab");
            due("3: the last stays", read(x, 55, 0, 1), "tb");
            due("3: no more comes", read(x, 56, 0, 1), "??");
            due("3: the steps stay", x.steps(), 59);
        }
    }

    // Promise 4

    private static void sign() {
        signOutOfRange();
        signWhenThereAreSixty();
        whatWasFoundIsGoneByASign();
    }

    // "false, doing nothing, when it is not -1 to 25"
    private static void signOutOfRange() {
        for (int v = -300; v <= 300; v++) {
            oneSign(v);
        }
        for (int v : FAR) {
            oneSign(v);
        }
    }

    private static void oneSign(int v) {
        boolean number = v >= 0 && v <= 25;
        CodedLetters x = withWords("a");
        due("4: sign(" + v + ")", x.sign(v), number || v == -1);
        due("4: its codeword", x.codewords(), number ? 1 : 0);
        due("4: one reading", x.run(1), 1);
        due("4: its letter", x.letter(0, v), number ? 'a' : -1);
        CodedLetters y = withWords("a", "ab");
        code(y, "9");
        due("4: found", y.run(1), 1);
        boolean taken = y.sign(v);
        due("4: what was found stays by a refused sign alone", y.best(), taken ? -1 : 0);
        due("4: so do its letters", y.letter(0, 9), taken ? -1 : 'a');
        y.sign(10);
        due("4: a refused sign stands nowhere", y.run(2), taken ? 0 : 1);
    }

    // "or there are 60"
    private static void signWhenThereAreSixty() {
        for (int last = -1; last <= 25; last += 13) {
            CodedLetters x = withWords("a", "b");
            x.sign(5);
            for (int i = 1; i < 59; i++) {
                due("4: sign " + i, x.sign(-1), true);
            }
            x.keep(12, 'b');
            x.keep(25, 'b');
            due("4: the sixtieth", x.sign(last), true);
            int codewords = last == -1 ? 1 : 2;
            due("4: codewords", x.codewords(), codewords);
            due("4: found", x.run(6), last == -1 ? 2 : 1);
            for (int v : new int[] {-1, 0, 25, 5, -2, 26}) {
                due("4: the sixty-first, " + v, x.sign(v), false);
            }
            due("4: it is no codeword", x.codewords(), codewords);
            due("4: what was found stays", x.letter(0, 5), 'a');
            due("4: it is not in the code", x.letter(0, 0), -1);
            due("4: the same is found again", x.run(6), last == -1 ? 2 : 1);
            x.clear();
            due("4: room again", x.sign(0), true);
        }
    }

    // "What was found is gone."
    private static void whatWasFoundIsGoneByASign() {
        for (int v : new int[] {-1, 0, 1, 25}) {
            CodedLetters x = withWords("ab", "cd");
            x.pair('a', 'b', 3);
            code(x, "0 1");
            due("4: run", x.run(2), 2);
            due("4: rank", x.rank(0), 3);
            due("4: a sign", x.sign(v), true);
            due("4: no best", x.best(), -1);
            due("4: no letter", read(x, 0, 0, 1), "??");
            due("4: no second one", read(x, 1, 0, 1), "??");
            due("4: no rank", x.rank(0), 0);
            due("4: no hint", x.hint(), -1);
            due("4: the steps are the latest run's", x.steps(), 2);
        }
        CodedLetters y = new CodedLetters();
        due("4: the reading of no code", y.run(0), 1);
        y.sign(-1);
        due("4: is gone by a gap", y.best(), -1);
    }

    // Promise 5

    private static void keep() {
        keepOfANumberOutOfRange();
        keepOfNoLetter();
        keepNotAnyMore();
        keepBeforeTheCode();
        whatWasFoundIsGoneByKeep();
    }

    // "false, doing nothing, when it is not 0 to 25"
    private static void keepOfANumberOutOfRange() {
        for (int number = -300; number <= 300; number++) {
            oneKeptNumber(number);
        }
        for (int number : FAR) {
            oneKeptNumber(number);
        }
    }

    private static void oneKeptNumber(int number) {
        boolean right = number >= 0 && number <= 25;
        for (int letter : new int[] {'b', 0}) {
            CodedLetters x = withWords("a", "b");
            x.sign(right ? number : 25);
            due("5: found", x.run(2), 2);
            due("5: keep(" + number + ", " + letter + ")", x.keep(number, letter), right);
            due("5: found stays by a refused one alone", x.best(), right ? -1 : 0);
            due("5: run", x.run(2), right && letter == 'b' ? 1 : 2);
        }
    }

    // "or the letter none"
    private static void keepOfNoLetter() {
        for (int letter = -300; letter <= 700; letter++) {
            oneKeptLetter(letter);
        }
        for (int letter : FAR) {
            oneKeptLetter(letter);
        }
    }

    private static void oneKeptLetter(int letter) {
        CodedLetters x = withWords("a", "m", "z");
        code(x, "7");
        x.keep(7, 'm');
        due("5: found", x.run(3), 1);
        boolean taken = letter == 0 || isLetter(letter);
        due("5: keep(7, " + letter + ")", x.keep(7, letter), taken);
        due("5: found stays by a refused one alone", x.letter(0, 7), taken ? -1 : 'm');
        boolean word = letter == 'a' || letter == 'm' || letter == 'z';
        due("5: run", x.run(3), letter == 0 ? 3 : taken && !word ? 0 : 1);
        due("5: the letter", x.letter(0, 7), letter == 0 ? 'a' : word ? letter : taken ? -1 : 'm');
    }

    // "or (0) not so any more"
    private static void keepNotAnyMore() {
        for (int number = 0; number < 26; number++) {
            CodedLetters x = withWords("a", "b");
            x.sign(number);
            due("5: 0 for one not kept", x.keep(number, 0), true);
            due("5: still free", x.run(2), 2);
            x.keep(number, 'b');
            due("5: kept", x.run(2), 1);
            due("5: its letter", x.letter(0, number), 'b');
            x.keep((number + 1) % 26, 0);
            due("5: another number's 0 leaves it", x.run(2), 1);
            x.keep(number, 0);
            due("5: free again", x.run(2), 2);
        }
    }

    // "A number stands for a letter in all readings": also one that comes into the code later
    private static void keepBeforeTheCode() {
        CodedLetters x = withWords("ab", "cb", "cd");
        x.keep(1, 'b');
        x.keep(1, 'b');
        x.keep(0, 'a');
        x.keep(0, 'c');
        code(x, "0 1");
        due("5: the letter kept last", x.run(3), 1);
        due("5: in its reading", read(x, 0, 0, 1), "cb");
    }

    // "What was found is gone."
    private static void whatWasFoundIsGoneByKeep() {
        int[][] calls = {{0, 'a'}, {1, 'b'}, {0, 'z'}, {0, 0}, {1, 0}, {25, 'q'}, {25, 0}};
        for (int[] call : calls) {
            CodedLetters x = withWords("ab");
            x.pair('a', 'b', 3);
            code(x, "0 1");
            x.keep(1, 'b');
            due("5: run", x.run(1), 1);
            due("5: keep", x.keep(call[0], call[1]), true);
            due("5: no best", x.best(), -1);
            due("5: no letter", read(x, 0, 0, 1), "??");
            due("5: no rank", x.rank(0), 0);
            due("5: no hint", x.hint(), -1);
            due("5: the steps are the latest run's", x.steps(), 1);
        }
    }

    // Promise 6

    private static void pair() {
        pairOfNoLetter();
        pairOutOfWeight();
        whatWasFoundStaysByAPair();
    }

    // "false, doing nothing, when one is no letter"
    private static void pairOfNoLetter() {
        for (int u = -300; u <= 700; u++) {
            onePair(u);
        }
        for (int u : FAR) {
            onePair(u);
        }
        noRowBeside();
    }

    private static void onePair(int u) {
        for (int letter : new int[] {'a', 'z'}) {
            CodedLetters x = readAs(letter, isLetter(u) ? u : 'm');
            due("6: pair(" + letter + ", " + u + ")", x.pair(letter, u, 5), isLetter(u));
            due("6: its weight", x.rank(0), isLetter(u) ? 5 : 0);
            CodedLetters y = readAs(isLetter(u) ? u : 'm', letter);
            due("6: pair(" + u + ", " + letter + ")", y.pair(u, letter, 5), isLetter(u));
            due("6: its weight", y.rank(0), isLetter(u) ? 5 : 0);
        }
        CodedLetters z = new CodedLetters();
        due("6: pair(" + u + ", " + u + ")", z.pair(u, u, 5), isLetter(u));
    }

    /** A letter that is none must not slip into a row beside its own. */
    private static void noRowBeside() {
        int[][] calls = {{'a', 'z' + 1}, {'b', 'a' - 1}, {'y', 'z' + 1}, {'z', 'a' - 1}};
        int[][] beside = {{'b', 'a'}, {'a', 'z'}, {'z', 'a'}, {'y', 'z'}};
        for (int i = 0; i < calls.length; i++) {
            CodedLetters x = readAs(beside[i][0], beside[i][1]);
            due("6: beside", x.pair(calls[i][0], calls[i][1], 5), false);
            due("6: the row beside", x.rank(0), 0);
        }
    }

    // "or v not -1,000 to 1,000"
    private static void pairOutOfWeight() {
        for (int v = -1100; v <= 1100; v++) {
            onePairWeight(v);
        }
        for (int v : FAR) {
            onePairWeight(v);
        }
    }

    private static void onePairWeight(int v) {
        boolean right = v >= -1000 && v <= 1000;
        CodedLetters x = readAs('a', 'b');
        x.pair('a', 'b', 77);
        due("6: pair(a, b, " + v + ")", x.pair('a', 'b', v), right);
        due("6: its weight", x.rank(0), right ? v : 77);
    }

    // "The RANK of reading k by the weights as they are": a pair leaves what was found alone
    private static void whatWasFoundStaysByAPair() {
        CodedLetters x = withWords("ab", "cd");
        code(x, "0 1");
        due("6: run", x.run(2), 2);
        due("6: a pair", x.pair('c', 'd', 1000), true);
        due("6: found stays", read(x, 0, 0, 1) + read(x, 1, 0, 1), "abcd");
        due("6: the best by it", x.best(), 1);
        due("6: a refused one", x.pair('c', 'd', 1001), false);
        due("6: found stays by that", x.best(), 1);
    }

    // Promise 7

    private static void run() {
        runOfWrongSteps();
        runOfNoSteps();
        runOfTheMostSteps();
        runThatLacksAStep();
        atMostTwoHundredAreKept();
        theFirstOnesAreKept();
        wordsOfItsLengthAreTried();
        keptOnesHaveTheirsFromTheBeginning();
        twoNumbersKeptForOneLetter();
    }

    // "-2, doing nothing, when steps is not so" (0 to 100,000)
    private static void runOfWrongSteps() {
        CodedLetters x = withWords("ab", "cd");
        code(x, "0 1");
        due("7: run", x.run(2), 2);
        for (int steps : new int[] {-1, -2, -100000, 100001, 100002, 200000, Integer.MIN_VALUE,
            Integer.MAX_VALUE}) {
            due("7: run(" + steps + ")", x.run(steps), -2);
            due("7: -2 does nothing to what was found", read(x, 1, 0, 1), "cd");
            due("7: nor to the steps", x.steps(), 2);
        }
        due("7: lacking", x.run(1), -1);
        due("7: wrong behind that", x.run(-1), -2);
        due("7: nothing is found by it", x.best(), -1);
        due("7: the steps of the one that lacked", x.steps(), 1);
        CodedLetters y = new CodedLetters();
        due("7: wrong at first", y.run(100001), -2);
        due("7: finds not even the one reading of no code", y.best(), -1);
    }

    // "(0 to 100,000)", the least
    private static void runOfNoSteps() {
        CodedLetters x = withWords("a");
        due("7: none needed", x.run(0), 1);
        code(x, "0 1");
        due("7: no word of two letters", x.run(0), 0);
        due("7: no step", x.steps(), 0);
        x.clear();
        code(x, "0");
        due("7: one needed", x.run(0), -1);
        due("7: none made", x.steps(), 0);
        due("7: one allowed", x.run(1), 1);
        due("7: one made", x.steps(), 1);
    }

    // "(0 to 100,000)", the most
    private static void runOfTheMostSteps() {
        CodedLetters x = ofJustSoManySteps(false);
        due("7: 100,000 needed", x.run(100000), 5040);
        due("7: 100,000 made", x.steps(), 100000);
        due("7: 99,999 allowed", x.run(99999), -1);
        due("7: 99,999 made", x.steps(), 99999);
        due("7: nothing is found then", x.best(), -1);
        due("7: 100,001 are not allowed", x.run(100001), -2);
        CodedLetters y = ofJustSoManySteps(true);
        due("7: 100,001 needed", y.run(100000), -1);
        due("7: 100,000 made of them", y.steps(), 100000);
        due("7: nothing is found of them", y.best(), -1);
    }

    /**
     * A code that needs 100,000 steps, or one more. Four codewords of ten double letters have 10, 90,
     * 720 and 5,040 ways; between them stand codewords of z alone, which is kept: these try all words
     * of their length in each way, and lead on by one.
     */
    private static CodedLetters ofJustSoManySteps(boolean oneMore) {
        CodedLetters x = new CodedLetters();
        for (char c = 'a'; c <= 'j'; c++) {
            add(x, "" + c + c);
        }
        add(x, "z");
        add(x, "zzz");
        for (char c = 'a'; c < 'a' + 8; c++) {
            add(x, "" + c + c + c);
        }
        add(x, "zzzz");
        for (char c = 'a'; c < 'a' + 7; c++) {
            add(x, "" + c + c + c + c);
        }
        x.keep(0, 'z');
        if (oneMore) {
            code(x, "0 -");
        }
        code(x, "1 1 - 0 0 0 0 - 2 2 - 0 - 0 - 0 - 3 3 - 0 - 4 4 - 0 0 0 - 0 0 0");
        return x;
    }

    // "-1 when they do not do (nothing is found then)"
    private static void runThatLacksAStep() {
        CodedLetters x = withWords("a", "b", "c");
        code(x, "0 - 1");
        int needed = 3 + 3 * 3;
        for (int steps = 0; steps <= needed + 2; steps++) {
            boolean enough = steps >= needed;
            due("7: before", x.run(100), 6);
            due("7: run(" + steps + ")", x.run(steps), enough ? 6 : -1);
            due("7: steps of run(" + steps + ")", x.steps(), Math.min(steps, needed));
            due("7: best", x.best(), enough ? 0 : -1);
            due("7: letter", x.letter(0, 0), enough ? 'a' : -1);
            due("7: hint", x.hint(), -1);
        }
    }

    // "at most 200 of them (the first ones) are kept"
    private static void atMostTwoHundredAreKept() {
        CodedLetters x = ofTwoHundredReadings("wxyz");
        due("7: 200", x.run(100000), 200);
        String last = read(x, 199, 0, 1, 2, 3);
        due("7: the 200th is kept", last, "jcdz");
        due("7: there is no 201st", read(x, 200, 0, 1, 2, 3), "????");
        due("7: one more word", add(x, "zyx"), 54);
        due("7: 201", x.run(100000), 201);
        due("7: the 200th is the same", read(x, 199, 0, 1, 2, 3), last);
        due("7: the 201st is not kept", read(x, 200, 0, 1, 2, 3), "????");
        due("7: nor has it a rank", x.rank(200), 0);
    }

    // "(the first ones)": those ahead, not those that are found first
    private static void theFirstOnesAreKept() {
        CodedLetters x = ofTwoHundredReadings("abcd");
        due("7: 200", x.run(100000), 200);
        String first = read(x, 0, 0, 1, 2, 3);
        String last = read(x, 198, 0, 1, 2, 3);
        due("7: the first", first, "efia");
        due("7: one more word", add(x, "abc"), 54);
        due("7: 201", x.run(100000), 201);
        due("7: found last, yet ahead of all", read(x, 0, 0, 1, 2, 3), "abcd");
        due("7: the first is the second now", read(x, 1, 0, 1, 2, 3), first);
        due("7: the 199th is the 200th now", read(x, 199, 0, 1, 2, 3), last);
        due("7: the 200th is not kept", read(x, 200, 0, 1, 2, 3), "????");
        x.keep(0, 'a');
        due("7: fewer", x.run(100000), 1);
        due("7: no other is left of the 200", x.letter(1, 0), -1);
    }

    /** Fifty words of three letters and four of one letter, which the fifty do not have. */
    private static CodedLetters ofTwoHundredReadings(String ends) {
        CodedLetters x = new CodedLetters();
        char first = ends.charAt(0) == 'a' ? 'e' : 'a';
        for (int i = 0; i < 50; i++) {
            int a = i % 10;
            int b = (a + 1 + (i / 10) % 3) % 10;
            int c = (a + 4 + i / 30) % 10;
            due("word " + i, add(x, "" + (char) (first + a) + (char) (first + b) + (char) (first + c)), i);
        }
        for (int i = 0; i < 4; i++) {
            add(x, ends.substring(i, i + 1));
        }
        code(x, "0 1 2 - 3");
        return x;
    }

    // "all words of its length are tried"
    private static void wordsOfItsLengthAreTried() {
        for (int length = 1; length <= 9; length++) {
            CodedLetters x = new CodedLetters();
            for (int i = 1; i <= 8; i++) {
                for (int j = 0; j < i && j < 6; j++) {
                    add(x, "abcdefgh".substring(0, i - 1) + (char) ('u' + j));
                }
            }
            for (int i = 0; i < length; i++) {
                x.sign(i);
            }
            int due = length == 9 ? 0 : Math.min(length, 6);
            due("7: words of " + length, x.run(100), due);
            due("7: steps of " + length, x.steps(), due);
        }
    }

    // "(kept ones have theirs from the beginning"
    private static void keptOnesHaveTheirsFromTheBeginning() {
        CodedLetters x = withWords("a", "b", "c");
        code(x, "0 - 1");
        x.keep(1, 'b');
        due("7: the first codeword does not take b", x.run(100), 2);
        due("7: so it leads on twice", x.steps(), 3 + 2 * 3);
        due("7: the readings", read(x, 0, 0, 1) + read(x, 1, 0, 1), "abcb");
        x.keep(9, 'a');
        due("7: a number that is not in the code keeps no letter from it", x.run(100), 2);
        due("7: its steps", x.steps(), 9);
    }

    // "when two numbers in THE CODE are kept for one letter, no step is made"
    private static void twoNumbersKeptForOneLetter() {
        CodedLetters x = withWords("a", "b");
        x.keep(0, 'a');
        x.keep(25, 'a');
        code(x, "0 -");
        due("7: one of them in the code", x.run(2), 1);
        due("7: steps are made", x.steps(), 2);
        code(x, "25");
        due("7: both in the code", x.run(2), 0);
        due("7: no step is made", x.steps(), 0);
        due("7: not one is lacking", x.run(0), 0);
        due("7: nothing is found", x.best(), -1);
        x.keep(25, 'b');
        due("7: another letter", x.run(4), 1);
        due("7: steps again", x.steps(), 4);
        x.keep(0, 'b');
        due("7: both for b", x.run(4), 0);
        due("7: no step for b", x.steps(), 0);
        x.keep(25, 0);
        due("7: one let go", x.run(4), 1);
        due("7: its steps", x.steps(), 2 + 2);
    }

    // Promise 8

    // "How many STEPS the latest run() made."
    private static void steps() {
        CodedLetters x = withWords("a", "b", "c");
        due("8: no run yet", x.steps(), 0);
        code(x, "0");
        due("8: still none", x.steps(), 0);
        x.run(3);
        due("8: three", x.steps(), 3);
        x.run(2);
        due("8: two, which were too few", x.steps(), 2);
        x.run(100001);
        due("8: a refused run made none of its own", x.steps(), 2);
        x.run(100);
        add(x, "d");
        x.pair('a', 'b', 1);
        x.plain('a');
        x.hint();
        x.sign(-1);
        x.keep(0, 'a');
        due("8: other calls make none", x.steps(), 3);
        x.run(100);
        due("8: all are tried, kept or not", x.steps(), 4);
        x.clear();
        due("8: clear makes none", x.steps(), 4);
        x.run(100);
        due("8: none for no code", x.steps(), 0);
    }

    // Promise 9

    // "-1 when there is none such, or the number is not in the code"
    private static void letter() {
        CodedLetters x = withWords("ab", "cd", "ef");
        x.keep(9, 'q');
        code(x, "0 25");
        due("9: none before a run", x.letter(0, 0), -1);
        due("9: run", x.run(3), 3);
        for (int k = -70; k <= 210; k++) {
            due("9: letter(" + k + ", 0)", x.letter(k, 0), k >= 0 && k < 3 ? "ace".charAt(k) : -1);
        }
        for (int k : FAR) {
            due("9: letter(" + k + ", 0)", x.letter(k, 0), -1);
        }
        for (int number = -30; number <= 30; number++) {
            int due = number == 0 ? 'e' : number == 25 ? 'f' : -1;
            due("9: letter(2, " + number + ")", x.letter(2, number), due);
        }
    }

    // Promise 10

    private static void rank() {
        rankOfNone();
        rankOfTheDearest();
        rankWithinCodewords();
    }

    // "0 when there is none such"
    private static void rankOfNone() {
        CodedLetters x = withWords("ab", "cd", "ef");
        x.pair('a', 'b', 1);
        x.pair('c', 'd', -2);
        x.pair('e', 'f', 3);
        code(x, "0 1");
        due("10: none before a run", x.rank(0), 0);
        due("10: run", x.run(3), 3);
        int[] ranks = {1, -2, 3};
        for (int k = -210; k <= 210; k++) {
            due("10: rank(" + k + ")", x.rank(k), k >= 0 && k < 3 ? ranks[k] : 0);
        }
        for (int k : FAR) {
            due("10: rank(" + k + ")", x.rank(k), 0);
        }
        due("10: run that lacks", x.run(2), -1);
        due("10: none then", x.rank(0), 0);
    }

    // "the sum of the weights of all two letters that stand side by side in a codeword"
    private static void rankOfTheDearest() {
        CodedLetters x = withWords("aaaaaaaa", "aaaaaa");
        for (int i = 0; i < 60; i++) {
            due("10: sign " + i, x.sign(i % 9 == 8 ? -1 : 3), true);
        }
        due("10: seven codewords", x.codewords(), 7);
        due("10: run", x.run(7), 1);
        x.pair('a', 'a', 1000);
        due("10: the greatest", x.rank(0), 1000 * (6 * 7 + 5));
        x.pair('a', 'a', -1000);
        due("10: the least", x.rank(0), -1000 * (6 * 7 + 5));
        due("10: it is the best, though", x.best(), 0);
    }

    // "in a codeword": nothing over a gap, nothing for a letter alone
    private static void rankWithinCodewords() {
        CodedLetters x = withWords("a", "b", "ba");
        x.pair('a', 'b', 100);
        x.pair('b', 'b', 100);
        x.pair('b', 'a', 1);
        x.pair('a', 'a', 100);
        code(x, "0 - 1 - 1 - - 0 - 1 0 - 0");
        x.keep(0, 'a');
        due("10: run", x.run(100), 1);
        due("10: one pair stands in a codeword", x.rank(0), 1);
    }

    // Promise 11

    private static void best() {
        noneIsKept();
        ofAlikeOnesTheFirst();
        onlyThoseKept();
    }

    // "-1 when none is kept"
    private static void noneIsKept() {
        CodedLetters x = withWords("a");
        due("11: before a run", x.best(), -1);
        code(x, "0");
        due("11: a run that lacks", x.run(0), -1);
        due("11: none then", x.best(), -1);
        due("11: one", x.run(1), 1);
        due("11: it", x.best(), 0);
        x.keep(0, 'b');
        due("11: no reading", x.run(1), 0);
        due("11: none then", x.best(), -1);
        x.keep(0, 0);
        x.run(1);
        x.clear();
        due("11: none behind clear", x.best(), -1);
    }

    // "of alike ones the first"
    private static void ofAlikeOnesTheFirst() {
        for (int weight : new int[] {-1000, -1, 0, 1, 1000}) {
            CodedLetters x = withWords("ab", "cd", "ef");
            code(x, "0 1");
            x.run(3);
            x.pair('a', 'b', weight);
            x.pair('c', 'd', weight);
            x.pair('e', 'f', weight);
            due("11: all alike", x.best(), 0);
            if (weight > -1000) {
                x.pair('a', 'b', weight - 1);
                due("11: the first of the greatest two", x.best(), 1);
                x.pair('c', 'd', weight - 1);
                due("11: the last is the greatest", x.best(), 2);
                x.pair('c', 'd', weight);
                x.pair('e', 'f', weight - 1);
                due("11: the middle one is", x.best(), 1);
            }
        }
    }

    // "The reading kept that has the greatest RANK"
    private static void onlyThoseKept() {
        CodedLetters x = ofTwoHundredReadings("wxyz");
        add(x, "zyx");
        x.pair('z', 'y', 1000);
        due("11: 201", x.run(100000), 201);
        due("11: the 201st is not kept, so not the best", x.best(), 0);
        x.pair('j', 'c', 1);
        x.pair('c', 'd', 1);
        due("11: among the last four, which are alike", x.best(), 196);
        due("11: its rank", x.rank(196), 2);
        due("11: the last one's", x.rank(199), 2);
    }

    // Promise 12

    private static void hint() {
        hintWhenThereIsNoReading();
        hintsAtTheEdges();
        hintOfNoneLeft();
        hintByTheReadingsKept();
        hintKeepsTheLetter();
    }

    // "(or no reading)"
    private static void hintWhenThereIsNoReading() {
        CodedLetters x = withWords("ab");
        due("12: no code, no run", x.hint(), -1);
        code(x, "0 1");
        due("12: no run", x.hint(), -1);
        due("12: lacking", x.run(0), -1);
        due("12: a run that lacked", x.hint(), -1);
        x.keep(0, 'z');
        due("12: none", x.run(1), 0);
        due("12: a run that found none", x.hint(), -1);
        x.keep(0, 0);
        due("12: one", x.run(1), 1);
        x.keep(5, 0);
        due("12: what was found is gone", x.hint(), -1);
        due("12: nothing was kept by all that", x.run(1), 1);
        due("12: so 0 is the first", x.hint(), 0);
    }

    // "the least number in the code"
    private static void hintsAtTheEdges() {
        CodedLetters x = withWords("abcd");
        code(x, "25 13 24 0");
        due("12: run", x.run(1), 1);
        for (int number : new int[] {0, 13, 24, 25}) {
            due("12: hint", x.hint(), number);
            due("12: what was found stays", read(x, 0, 25, 13, 24, 0), "abcd");
        }
        due("12: none left", x.hint(), -1);
    }

    // "-1 when there is none"
    private static void hintOfNoneLeft() {
        CodedLetters x = withWords("ab", "cb", "cd");
        code(x, "0 1");
        due("12: run", x.run(3), 3);
        due("12: they differ in both", x.hint(), -1);
        x.keep(0, 'c');
        due("12: run with 0 kept", x.run(3), 2);
        due("12: 0 is kept, in 1 they differ", x.hint(), -1);
        due("12: best stays", x.best(), 0);
        due("12: -1 keeps nothing", x.run(3), 2);
        CodedLetters y = withWords("ba", "ca", "da");
        code(y, "0 1");
        due("12: three", y.run(3), 3);
        due("12: 1 is alike", y.hint(), 1);
    }

    // "for which all readings kept have the same letter"
    private static void hintByTheReadingsKept() {
        CodedLetters x = new CodedLetters();
        for (int i = 0; i < 20; i++) {
            add(x, "" + (char) ('e' + i));
        }
        add(x, "aa");
        add(x, "bb");
        code(x, "0 0 - 1 - 2");
        due("12: 380 readings for each", x.run(100000), 2 * 20 * 19);
        due("12: the first 200 have a", x.letter(199, 0), 'a');
        due("12: so it is a hint", x.hint(), 0);
        due("12: half of them are left", x.run(100000), 20 * 19);
        due("12: no other", x.hint(), -1);
        CodedLetters y = ofTwoHundredReadings("wxyz");
        due("12: 200", y.run(100000), 200);
        due("12: they differ", y.hint(), -1);
    }

    // "that letter is kept for it"
    private static void hintKeepsTheLetter() {
        CodedLetters x = withWords("ab", "cd");
        code(x, "0 1");
        x.keep(1, 'd');
        due("12: run", x.run(2), 1);
        due("12: hint", x.hint(), 0);
        x.keep(1, 0);
        due("12: 1 is free, 0 is not", x.run(2), 1);
        due("12: it is c", read(x, 0, 0, 1), "cd");
        due("12: hint of 1", x.hint(), 1);
        x.keep(0, 0);
        due("12: 0 is free, 1 is not", x.run(2), 1);
        x.keep(1, 0);
        due("12: both are free", x.run(2), 2);
        x.keep(0, 'a');
        x.run(2);
        x.hint();
        x.clear();
        code(x, "0 1");
        due("12: a hint is not kept behind clear", x.run(2), 2);
    }

    // Promise 13

    // "How many codewords."
    private static void codewords() {
        CodedLetters x = new CodedLetters();
        for (int i = 0; i < 60; i++) {
            x.sign(i % 2 == 0 ? i % 26 : -1);
            due("13: behind sign " + i, x.codewords(), i / 2 + 1);
        }
        x.sign(0);
        due("13: thirty at most", x.codewords(), 30);
        CodedLetters y = new CodedLetters();
        for (int i = 0; i < 60; i++) {
            y.sign(i % 2 == 0 ? -1 : 0);
            due("13: gaps first, behind sign " + i, y.codewords(), (i + 1) / 2);
        }
        CodedLetters z = new CodedLetters();
        for (int i = 0; i < 60; i++) {
            z.sign(25);
            due("13: no gap", z.codewords(), 1);
        }
        due("13: sixty numbers are no word", z.run(0), 0);
        z.clear();
        due("13: none behind clear", z.codewords(), 0);
        for (int i = 0; i < 60; i++) {
            z.sign(-1);
            due("13: gaps alone", z.codewords(), 0);
        }
        due("13: sixty gaps have one reading", z.run(0), 1);
    }

    // Promise 14

    private static void plain() {
        plainThatIsNoLetter();
        plainWhenThereAreSixty();
    }

    // "false, doing nothing, when it is none"
    private static void plainThatIsNoLetter() {
        for (int u = -300; u <= 700; u++) {
            onePlain(u);
        }
        for (int u : FAR) {
            onePlain(u);
        }
    }

    private static void onePlain(int u) {
        CodedLetters x = new CodedLetters();
        x.plain('k');
        due("14: plain(" + u + ")", x.plain(u), isLetter(u));
        x.plain('m');
        due("14: first", x.shifted(0, 0), 'k');
        due("14: second", x.shifted(0, 1), isLetter(u) ? u : 'm');
        due("14: third", x.shifted(0, 2), isLetter(u) ? 'm' : -1);
    }

    // "or there are 60"
    private static void plainWhenThereAreSixty() {
        CodedLetters x = withWords("a");
        for (int i = 0; i < 60; i++) {
            due("14: none yet at " + i, x.shifted(0, i), -1);
            due("14: letter " + i, x.plain('a'), true);
            due("14: there at " + i, x.shifted(0, i), 'a');
        }
        due("14: the sixty-first", x.plain('b'), false);
        due("14: neither letter nor room", x.plain(96), false);
        due("14: it is not there", x.shifted(0, 60), -1);
        due("14: nor at the end", x.shifted(0, 59), 'a');
        due("14: nor in a break", x.breaks(), 60);
        x.clear();
        due("14: room again", x.plain('b'), true);
        due("14: at the beginning", x.shifted(0, 0), 'b');
        due("14: alone", x.shifted(0, 1), -1);
    }

    // Promise 15

    private static void shifted() {
        shiftedRoundTheAlphabet();
        shiftedWhereThereIsNoLetter();
    }

    // "(n may be any number.)", "round the alphabet"
    private static void shiftedRoundTheAlphabet() {
        for (int letter = 'a'; letter <= 'z'; letter++) {
            CodedLetters x = new CodedLetters();
            x.plain(letter);
            for (int n = -110; n <= 110; n++) {
                due("15: by " + n, x.shifted(n, 0), behind(letter, n));
            }
            for (int n : FAR) {
                due("15: by " + n, x.shifted(n, 0), behind(letter, n));
            }
            for (int i = 0; i < 60; i++) {
                due("15: by a great n", x.shifted(Integer.MAX_VALUE - i, 0),
                    behind(letter, Integer.MAX_VALUE - i));
                due("15: by a small n", x.shifted(Integer.MIN_VALUE + i, 0),
                    behind(letter, Integer.MIN_VALUE + i));
            }
        }
    }

    private static int behind(int letter, long n) {
        long place = (letter - 'a' + n) % 26;
        return (int) ('a' + (place < 0 ? place + 26 : place));
    }

    // "-1 when there is no such letter"
    private static void shiftedWhereThereIsNoLetter() {
        CodedLetters x = new CodedLetters();
        due("15: the empty plain", x.shifted(0, 0), -1);
        plainText(x, "bcd");
        for (int i = -70; i <= 70; i++) {
            due("15: letter " + i, x.shifted(-1, i), i >= 0 && i < 3 ? 'a' + i : -1);
        }
        for (int i : FAR) {
            due("15: letter " + i, x.shifted(0, i), -1);
        }
        due("15: shifting changes nothing", x.shifted(0, 0), 'b');
    }

    // Promise 16

    private static void bestShift() {
        eachShiftCanBeTheBest();
        ofAlikeShiftsTheLeast();
        bestShiftOfTheLongest();
    }

    // "The shift 0 to 25", round the alphabet
    private static void eachShiftCanBeTheBest() {
        for (int shift = 0; shift <= 25; shift++) {
            for (int letter = 'a'; letter <= 'z'; letter++) {
                CodedLetters x = new CodedLetters();
                x.plain(letter);
                x.plain(behind(letter, 1));
                x.pair(behind(letter, shift), behind(letter, shift + 1), 1);
                due("16: by " + shift, x.bestShift(), shift);
            }
        }
    }

    // "of alike ones the least"
    private static void ofAlikeShiftsTheLeast() {
        CodedLetters x = new CodedLetters();
        due("16: the empty plain", x.bestShift(), 0);
        x.pair('b', 'c', 1000);
        due("16: the empty plain, with weights", x.bestShift(), 0);
        x.plain('a');
        due("16: one letter", x.bestShift(), 0);
        for (int weight : new int[] {-1000, -1, 0, 1, 1000}) {
            CodedLetters y = new CodedLetters();
            plainText(y, "aa");
            for (int letter = 'a'; letter <= 'z'; letter++) {
                y.pair(letter, letter, weight);
            }
            due("16: all alike", y.bestShift(), 0);
            if (weight > -1000) {
                y.pair('a', 'a', weight - 1);
                due("16: the least of the others", y.bestShift(), 1);
                for (int letter = 'b'; letter <= 'y'; letter++) {
                    y.pair(letter, letter, weight - 1);
                }
                due("16: the last alone", y.bestShift(), 25);
            }
        }
    }

    // "the greatest sum of weights", over all letters side by side
    private static void bestShiftOfTheLongest() {
        CodedLetters x = new CodedLetters();
        for (int i = 0; i < 60; i++) {
            x.plain(i < 59 ? 'a' : 'b');
        }
        x.pair('c', 'c', 16);
        x.pair('e', 'f', 927);
        due("16: 58 times 16 are more than 927", x.bestShift(), 2);
        x.pair('e', 'f', 928);
        due("16: alike", x.bestShift(), 2);
        x.pair('e', 'f', 929);
        due("16: less than 929", x.bestShift(), 4);
        x.pair('f', 'f', 1000);
        due("16: 58,000", x.bestShift(), 5);
        x.pair('f', 'g', -1000);
        x.pair('z', 'z', 1000);
        due("16: 57,000 are less, and z is followed by a", x.bestShift(), 25);
        x.pair('z', 'a', -1000);
        due("16: alike again", x.bestShift(), 5);
    }

    // Promise 17

    private static void keyed() {
        keyedRoundTheAlphabet();
        keyedInTurn();
        keyedWhereThereIsNone();
    }

    // "(a by 0, b by 1, ..)", round the alphabet
    private static void keyedRoundTheAlphabet() {
        for (int key = 'a'; key <= 'z'; key++) {
            CodedLetters x = withWords("" + (char) key);
            for (int letter = 'a'; letter <= 'z'; letter++) {
                x.plain(letter);
                due("17: by " + (char) key, x.keyed(0, letter - 'a'), behind(letter, key - 'a'));
            }
        }
    }

    // "in turn from its first one on"
    private static void keyedInTurn() {
        String key = "bcdefghz";
        for (int length = 1; length <= 8; length++) {
            CodedLetters x = withWords("q", key.substring(8 - length));
            for (int i = 0; i < 60; i++) {
                x.plain('y');
            }
            for (int i = 0; i < 60; i++) {
                int shift = key.charAt(8 - length + i % length) - 'a';
                due("17: letter " + i + " by a key of " + length, x.keyed(1, i), behind('y', shift));
            }
        }
    }

    // "-1 when there is no such letter or word"
    private static void keyedWhereThereIsNone() {
        CodedLetters x = new CodedLetters();
        due("17: neither", x.keyed(0, 0), -1);
        add(x, "b");
        due("17: a word, no letter", x.keyed(0, 0), -1);
        plainText(x, "abc");
        add(x, "cccccccc");
        for (int i = -70; i <= 70; i++) {
            boolean there = i >= 0 && i < 3;
            due("17: keyed(0, " + i + ")", x.keyed(0, i), there ? 'b' + i : -1);
            due("17: keyed(1, " + i + ")", x.keyed(1, i), there ? 'c' + i : -1);
        }
        for (int word = -70; word <= 70; word++) {
            due("17: keyed(" + word + ", 0)", x.keyed(word, 0), word == 0 ? 'b' : word == 1 ? 'c' : -1);
        }
        for (int far : FAR) {
            due("17: letter " + far, x.keyed(0, far), -1);
            due("17: word " + far, x.keyed(far, 0), -1);
        }
        CodedLetters y = new CodedLetters();
        plainText(y, "a");
        due("17: a letter, no word", y.keyed(0, 0), -1);
        collect(y, "b");
        due("17: what is collected is no word", y.keyed(0, 0), -1);
        y.word();
        due("17: now it is", y.keyed(0, 0), 'b');
    }

    // Promise 18

    private static void breaks() {
        breaksOfTheEmptyPlain();
        breaksThatCannotBe();
        breaksOfTheLongest();
    }

    // "0 when it is empty"
    private static void breaksOfTheEmptyPlain() {
        CodedLetters x = new CodedLetters();
        due("18: empty, no words", x.breaks(), 0);
        add(x, "a");
        due("18: empty, a word", x.breaks(), 0);
        x.plain('a');
        due("18: one", x.breaks(), 1);
        x.clear();
        due("18: empty again", x.breaks(), 0);
    }

    // "-1 when it can't be"
    private static void breaksThatCannotBe() {
        CodedLetters x = new CodedLetters();
        x.plain('a');
        due("18: no words", x.breaks(), -1);
        add(x, "aa");
        due("18: the word is too long", x.breaks(), -1);
        add(x, "b");
        due("18: another letter", x.breaks(), -1);
        x.plain('a');
        due("18: just so long", x.breaks(), 1);
        x.plain('a');
        due("18: one letter is left", x.breaks(), -1);
        x.plain('b');
        due("18: one in the middle is left", x.breaks(), -1);
        add(x, "ab");
        due("18: no longer", x.breaks(), 2);
        CodedLetters y = withWords("ba");
        plainText(y, "aba");
        due("18: the first letter is left", y.breaks(), -1);
    }

    // "The fewest words that the plain, without gaps, is made of": the longest plain
    private static void breaksOfTheLongest() {
        CodedLetters x = withWords("a", "aaaaaaaa");
        for (int length = 1; length <= 60; length++) {
            x.plain('a');
            due("18: of " + length, x.breaks(), length / 8 + length % 8);
        }
        CodedLetters y = withWords("aaaaaaaa", "aaaaa", "aaaaaaa");
        int[] fewest = {-1, -1, -1, -1, 1, -1, 1, 1, -1, 2, -1, 2, 2, 2, 2, 2, 3, 3, 3, 3, 3, 3, 3, 3};
        for (int length = 1; length <= 24; length++) {
            y.plain('a');
            due("18: by 5, 7 and 8, of " + length, y.breaks(), fewest[length - 1]);
        }
        CodedLetters z = new CodedLetters();
        addSixtyWords(z);
        plainText(z, "acac" + sixtyWord(59));
        due("18: by the last word too", z.breaks(), 3);
        due("18: which is the last of them", z.breakAt(2), 59);
    }

    // Promise 19

    private static void breakAt() {
        breakAtNone();
        ofAllWaysWithSoFew();
    }

    // "-1 when there is none such"
    private static void breakAtNone() {
        CodedLetters x = withWords("ab", "c");
        for (int k = -70; k <= 70; k++) {
            due("19: of the empty plain", x.breakAt(k), -1);
        }
        plainText(x, "abcab");
        for (int k = -70; k <= 70; k++) {
            due("19: breakAt(" + k + ")", x.breakAt(k), k == 0 || k == 2 ? 0 : k == 1 ? 1 : -1);
        }
        for (int k : FAR) {
            due("19: breakAt(" + k + ")", x.breakAt(k), -1);
        }
        x.plain('a');
        for (int k = -3; k <= 5; k++) {
            due("19: it can't be, " + k, x.breakAt(k), -1);
        }
        CodedLetters y = withWords("a");
        for (int i = 0; i < 60; i++) {
            y.plain('a');
        }
        for (int k = -1; k <= 61; k++) {
            due("19: of sixty, " + k, y.breakAt(k), k >= 0 && k < 60 ? 0 : -1);
        }
    }

    // "of all ways with so few the one with the lesser word at the first place where they differ"
    private static void ofAllWaysWithSoFew() {
        CodedLetters x = withWords("b", "aaa", "a", "aa", "aab");
        plainText(x, "aaaa");
        due("19: 1 2 and 2 1 and 3 3 are so few", x.breaks(), 2);
        due("19: the lesser first", x.breakAt(0), 1);
        due("19: then its rest", x.breakAt(1), 2);
        x.plain('b');
        due("19: 3 4 and no other", x.breaks(), 2);
        due("19: not 1, which needs three", x.breakAt(0), 3);
        due("19: and the last of the words", x.breakAt(1), 4);
        x.plain('b');
        due("19: three", x.breaks(), 3);
        due("19: they do not differ at the first", x.breakAt(0), 3);
        due("19: nor at the second", x.breakAt(1), 4);
        due("19: nor at the third", x.breakAt(2), 0);
        CodedLetters y = withWords("c", "cd", "ab", "abc", "d", "e", "de");
        plainText(y, "eabcd");
        due("19: e ab cd and e abc d", y.breaks(), 3);
        due("19: alike at the first", y.breakAt(0), 5);
        due("19: the lesser at the second", y.breakAt(1), 2);
        due("19: though then the lesser is not at the third", y.breakAt(2), 1);
    }

    // Promise 20

    private static void clear() {
        clearOfTheFull();
        clearOfTheNumbers();
        clearOfTheKept();
        clearLeavesWordsAndWeights();
    }

    // "No code, .. the plain empty": the full ones
    private static void clearOfTheFull() {
        CodedLetters x = withWords("a", "b");
        for (int round = 0; round < 3; round++) {
            for (int i = 0; i < 60; i++) {
                due("20: sign " + i, x.sign(i % 2 == 0 ? round : -1), true);
                due("20: plain " + i, x.plain('a' + round), true);
            }
            due("20: full of signs", x.sign(-1), false);
            due("20: full of letters", x.plain('a'), false);
            due("20: thirty codewords", x.codewords(), 30);
            due("20: run", x.run(100000), 2);
            due("20: the number", read(x, 0, 0, 1, 2), "???".substring(0, round) + "a"
                + "???".substring(0, 2 - round));
            due("20: the letter", x.shifted(0, 59), 'a' + round);
            x.clear();
            due("20: no codewords", x.codewords(), 0);
            due("20: no reading", x.best(), -1);
            due("20: no letter of one", read(x, 0, 0, 1, 2), "???");
            due("20: no rank", x.rank(0), 0);
            due("20: no hint", x.hint(), -1);
            due("20: no first letter", x.shifted(0, 0), -1);
            due("20: no last letter", x.keyed(0, 59), -1);
            due("20: nothing to break", x.breaks(), 0);
            due("20: nor a word of it", x.breakAt(0), -1);
        }
        CodedLetters y = new CodedLetters();
        y.clear();
        y.clear();
        due("20: a new object stays as it is", y.run(0), 1);
        due("20: first word", add(y, "a"), 0);
    }

    // "No code": a number of the code before is not in the code
    private static void clearOfTheNumbers() {
        for (int number = 0; number < 26; number++) {
            CodedLetters x = withWords("a");
            x.sign(number);
            due("20: in the code", x.run(1), 1);
            x.clear();
            x.keep(number, 'a');
            x.sign((number + 1) % 26);
            due("20: a letter kept for " + number + " is free for others", x.run(1), 1);
            due("20: it has no letter", x.letter(0, number), -1);
        }
    }

    // "nothing kept"
    private static void clearOfTheKept() {
        CodedLetters x = withWords("a", "b");
        for (int number = 0; number < 26; number++) {
            x.keep(number, 'b');
        }
        for (int number = 0; number < 26; number++) {
            x.clear();
            x.sign(number);
            due("20: not kept any more, " + number, x.run(2), 2);
            x.keep(number, 'b');
            due("20: kept anew", x.run(2), 1);
        }
    }

    // "(words and weights stay)"
    private static void clearLeavesWordsAndWeights() {
        CodedLetters x = withWords("ab", "zz");
        x.pair('a', 'b', 1000);
        x.pair('z', 'z', -1000);
        collect(x, "abc");
        x.clear();
        due("20: what is collected is no code and no plain", x.word(), 2);
        due("20: word 0", add(x, "ab"), 0);
        due("20: word 1", add(x, "zz"), 1);
        due("20: word 2", add(x, "abc"), 2);
        code(x, "0 1 - 2 2");
        due("20: run", x.run(4), 1);
        due("20: weights", x.rank(0), 0);
        x.pair('z', 'z', 0);
        due("20: the first weight", x.rank(0), 1000);
    }
}
