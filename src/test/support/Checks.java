/** What the tests share: answers compared with those due, and calls that build an object up. */
abstract class Checks {
    /** Values beside and far beyond every limit that the document names. */
    static final int[] FAR = {Integer.MIN_VALUE, Integer.MIN_VALUE + 1, -100001, -1001, -257, -256, -159,
        201, 353, 378, 512, 1001, 65536 + 97, 100001, Integer.MAX_VALUE - 1, Integer.MAX_VALUE};
    private static final int SHOWN = 40;
    private static int wrong = 0;

    static void due(String what, boolean got, boolean want) {
        due(what, got ? 1 : 0, want ? 1 : 0);
    }

    static void due(String what, long got, long want) {
        if (got != want) {
            tell(what + ": answered " + got + ", due is " + want);
        }
    }

    static void due(String what, String got, String want) {
        if (!got.equals(want)) {
            tell(what + ": answered " + got + ", due is " + want);
        }
    }

    private static void tell(String fault) {
        wrong++;
        if (wrong <= SHOWN) {
            System.out.println(fault);
        }
    }

    /** Ends the test, with exit code 1 if an answer was not as due. */
    static void end() {
        System.out.println(wrong == 0 ? "all answers are as due" : wrong + " answers are not as due");
        if (wrong != 0) {
            System.exit(1);
        }
    }

    static CodedLetters withWords(String... texts) {
        CodedLetters x = new CodedLetters();
        for (int i = 0; i < texts.length; i++) {
            due("word " + texts[i], add(x, texts[i]), i);
        }
        return x;
    }

    static void collect(CodedLetters x, String letters) {
        for (int i = 0; i < letters.length(); i++) {
            due("unit of " + letters, x.unit(letters.charAt(i)), true);
        }
    }

    static int add(CodedLetters x, String text) {
        collect(x, text);
        return x.word();
    }

    /** Sixty words of two letters, of which the second is a, b or c. */
    static String sixtyWord(int i) {
        return "" + (char) ('a' + i % 20) + (char) ('a' + i / 20);
    }

    static void addSixtyWords(CodedLetters x) {
        for (int i = 0; i < 60; i++) {
            due("word " + i, add(x, sixtyWord(i)), i);
        }
    }

    /** Signs with blanks between them; - is a gap. */
    static void code(CodedLetters x, String signs) {
        for (String sign : signs.split(" ")) {
            due("sign " + sign, x.sign(sign.equals("-") ? -1 : Integer.parseInt(sign)), true);
        }
    }

    static void plainText(CodedLetters x, String text) {
        for (int i = 0; i < text.length(); i++) {
            due("plain of " + text, x.plain(text.charAt(i)), true);
        }
    }

    /** The letters of some numbers in a reading, in a row; ? where there is none. */
    static String read(CodedLetters x, int k, int... numbers) {
        StringBuilder letters = new StringBuilder();
        for (int number : numbers) {
            int letter = x.letter(k, number);
            letters.append(letter == -1 ? '?' : (char) letter);
        }
        return letters.toString();
    }

    static boolean isLetter(int u) {
        return u >= 97 && u <= 122;
    }
}
