import java.util.ArrayList;
import java.util.LinkedHashMap;
import java.util.List;
import java.util.Map;

/**
 * A refused call does nothing: two objects are built alike, one of them has the refused call as well,
 * and then all that can be asked of the two is compared, behind that what further calls make of them.
 * The same holds of every call that only asks.
 */
public final class CodedLettersRefusals extends Checks {
    private static final int MOST_CALLS = 512;

    private interface Calls {
        void on(CodedLetters x);
    }

    private interface Question {
        long of(CodedLetters x);
    }

    public static void main(String[] args) {
        Map<String, Calls> states = states();
        Map<String, Question> refused = refusedEverywhere();
        Map<String, Question> asked = asked();
        for (Map.Entry<String, Calls> state : states.entrySet()) {
            for (Map.Entry<String, Question> call : refused.entrySet()) {
                long answer = call.getKey().startsWith("run") ? -2 : 0;
                doesNothing(state.getKey(), state.getValue(), call.getKey(), call.getValue(), answer);
            }
            for (Map.Entry<String, Question> call : asked.entrySet()) {
                CodedLetters x = built(state.getValue());
                long answer = call.getValue().of(x);
                doesNothing(state.getKey(), state.getValue(), call.getKey(), call.getValue(), answer);
            }
        }
        refusedWhereItIsFull(states);
        end();
    }

    private static void refusedWhereItIsFull(Map<String, Calls> states) {
        for (int letter : new int[] {'a', 'm', 'z'}) {
            fullRefuses(states, "eight collected", "unit " + letter, x -> x.unit(letter) ? 1 : 0, 0);
            fullRefuses(states, "sixty letters", "plain " + letter, x -> x.plain(letter) ? 1 : 0, 0);
        }
        for (int v = -1; v <= 25; v++) {
            int sign = v;
            fullRefuses(states, "sixty signs", "sign " + sign, x -> x.sign(sign) ? 1 : 0, 0);
        }
        fullRefuses(states, "new", "word of nothing", x -> x.word(), -1);
        fullRefuses(states, "sixty words", "word of nothing", x -> x.word(), -1);
        fullRefuses(states, "sixty words", "the sixty-first word", x -> add(x, "zzzzzzzz"), -1);
        fullRefuses(states, "sixty signs", "a word that is there", x -> add(x, "b"), 1);
        fullRefuses(states, "found many", "hint of none", x -> x.hint(), -1);
        fullRefuses(states, "lacked a step", "hint of no reading", x -> x.hint(), -1);
        fullRefuses(states, "hints made", "hint of none left", x -> x.hint(), -1);
        fullRefuses(states, "two kept for one", "hint of no reading", x -> x.hint(), -1);
    }

    private static void fullRefuses(Map<String, Calls> states, String name, String what, Question call,
            long answer) {
        doesNothing(name, states.get(name), what, call, answer);
    }

    private static void doesNothing(String name, Calls state, String what, Question call, long answer) {
        CodedLetters with = built(state);
        CodedLetters without = built(state);
        due(name + ": " + what, call.of(with), answer);
        due(name + ": " + what + " again", call.of(with), answer);
        List<Long> got = view(with);
        List<Long> want = view(without);
        for (int i = 0; i < want.size(); i++) {
            due(name + ": answer " + i + " behind " + what, got.get(i), want.get(i));
        }
    }

    private static CodedLetters built(Calls state) {
        CodedLetters x = new CodedLetters();
        state.on(x);
        return x;
    }

    private static Map<String, Calls> states() {
        Map<String, Calls> states = new LinkedHashMap<>();
        states.put("new", x -> { });
        states.put("some collected", x -> collect(x, "abc"));
        states.put("eight collected", x -> {
            add(x, "a");
            collect(x, "abcdefgh");
        });
        states.put("found", CodedLettersRefusals::found);
        states.put("found many", x -> {
            for (int letter = 'z'; letter >= 'b'; letter--) {
                add(x, "" + (char) letter);
            }
            x.pair('a', 'b', -8);
            code(x, "0 - 1");
            due("many", x.run(100000), 600);
        });
        states.put("sixty words", x -> {
            addSixtyWords(x);
            code(x, "0 1");
            due("sixty", x.run(60), 57);
        });
        states.put("sixty signs", x -> {
            add(x, "a");
            add(x, "b");
            code(x, "0 - 1");
            for (int i = 3; i < 60; i++) {
                x.sign(i % 2 == 0 ? 1 : -1);
            }
            due("thirty codewords", x.run(100000), 2);
        });
        states.put("sixty letters", x -> {
            add(x, "ab");
            add(x, "ba");
            for (int i = 0; i < 60; i++) {
                x.plain('a' + i % 2);
            }
        });
        states.put("two kept for one", x -> {
            found(x);
            x.keep(0, 'q');
            x.keep(1, 'q');
            due("none", x.run(100), 0);
        });
        states.put("lacked a step", x -> {
            found(x);
            due("one lacks", x.run(3), -1);
        });
        states.put("hints made", x -> {
            found(x);
            due("a hint", x.hint(), 1);
        });
        states.put("cleared", x -> {
            found(x);
            x.clear();
        });
        return states;
    }

    /** Words, a weight, a letter kept, a plain, letters collected, and two readings, alike in 1. */
    private static void found(CodedLetters x) {
        add(x, "ab");
        add(x, "cb");
        add(x, "b");
        add(x, "a");
        x.pair('c', 'b', 5);
        x.keep(7, 'z');
        plainText(x, "abcbab");
        code(x, "0 1 - 1");
        due("found", x.run(100), 2);
        collect(x, "xyz");
    }

    private static Map<String, Question> refusedEverywhere() {
        Map<String, Question> calls = new LinkedHashMap<>();
        for (int u : new int[] {Integer.MIN_VALUE, -159, -1, 1, 25, 96, 123, 353, Integer.MAX_VALUE}) {
            calls.put("unit " + u, x -> x.unit(u) ? 1 : 0);
            calls.put("plain " + u, x -> x.plain(u) ? 1 : 0);
            calls.put("keep 0 " + u, x -> x.keep(0, u) ? 1 : 0);
            calls.put("keep 7 " + u, x -> x.keep(7, u) ? 1 : 0);
            calls.put("pair a " + u, x -> x.pair('a', u, 9) ? 1 : 0);
            calls.put("pair b " + u, x -> x.pair(u, 'b', 9) ? 1 : 0);
        }
        calls.put("unit 0", x -> x.unit(0) ? 1 : 0);
        calls.put("plain 0", x -> x.plain(0) ? 1 : 0);
        for (int v : new int[] {Integer.MIN_VALUE, -257, -2, 26, 97, 256, Integer.MAX_VALUE}) {
            calls.put("sign " + v, x -> x.sign(v) ? 1 : 0);
            calls.put("keep a " + v, x -> x.keep(v, 'a') ? 1 : 0);
            calls.put("keep none " + v, x -> x.keep(v, 0) ? 1 : 0);
        }
        calls.put("keep a -1", x -> x.keep(-1, 'a') ? 1 : 0);
        calls.put("keep none -1", x -> x.keep(-1, 0) ? 1 : 0);
        for (int v : new int[] {Integer.MIN_VALUE, -1001, 1001, Integer.MAX_VALUE}) {
            calls.put("pair ab " + v, x -> x.pair('a', 'b', v) ? 1 : 0);
            calls.put("pair cb " + v, x -> x.pair('c', 'b', v) ? 1 : 0);
        }
        for (int steps : new int[] {Integer.MIN_VALUE, -2, -1, 100001, Integer.MAX_VALUE}) {
            calls.put("run " + steps, x -> x.run(steps));
        }
        return calls;
    }

    private static Map<String, Question> asked() {
        Map<String, Question> calls = new LinkedHashMap<>();
        calls.put("steps", x -> x.steps());
        calls.put("best", x -> x.best());
        calls.put("codewords", x -> x.codewords());
        calls.put("bestShift", x -> x.bestShift());
        calls.put("breaks", x -> x.breaks());
        for (int k : new int[] {Integer.MIN_VALUE, -1, 0, 1, 59, 60, 199, 200, Integer.MAX_VALUE}) {
            calls.put("letter " + k, x -> x.letter(k, 0));
            calls.put("letter of " + k, x -> x.letter(0, k));
            calls.put("rank " + k, x -> x.rank(k));
            calls.put("shifted " + k, x -> x.shifted(k, 0));
            calls.put("shifted at " + k, x -> x.shifted(1, k));
            calls.put("keyed " + k, x -> x.keyed(k, 0));
            calls.put("keyed at " + k, x -> x.keyed(0, k));
            calls.put("breakAt " + k, x -> x.breakAt(k));
        }
        return calls;
    }

    /** All that can be asked, and then what comes of further calls; it is the object's last use. */
    private static List<Long> view(CodedLetters x) {
        List<Long> answers = new ArrayList<>();
        askOfReadings(x, answers);
        askOfThePlain(x, answers);
        goOnWithWords(x, answers);
        goOnWithTheCode(x, answers);
        return answers;
    }

    private static void askOfReadings(CodedLetters x, List<Long> answers) {
        answers.add((long) x.steps());
        answers.add((long) x.best());
        answers.add((long) x.codewords());
        for (int k : new int[] {0, 1, 199}) {
            answers.add(x.rank(k));
            for (int number : new int[] {0, 1, 7, 25}) {
                answers.add((long) x.letter(k, number));
            }
        }
        answers.add((long) x.letter(200, 0));
    }

    private static void askOfThePlain(CodedLetters x, List<Long> answers) {
        answers.add((long) x.bestShift());
        answers.add((long) x.breaks());
        answers.add((long) x.breakAt(0));
        for (int i : new int[] {0, 1, 5, 6, 7, 58, 59, 60}) {
            answers.add((long) x.shifted(0, i));
        }
        answers.add(x.plain('q') ? 1L : 0L);
        for (int i : new int[] {0, 1, 2, 6, 7, 59}) {
            answers.add((long) x.keyed(0, i));
        }
    }

    private static void goOnWithWords(CodedLetters x, List<Long> answers) {
        answers.add((long) x.keyed(1, 0));
        answers.add(x.unit('q') ? 1L : 0L);
        answers.add((long) x.word());
        // What was collected before is told by the number that the same letters have then.
        for (String text : new String[] {"xyzq", "abcq", "abcdefgh", "q", "a", "b", "ab"}) {
            for (int i = 0; i < text.length(); i++) {
                answers.add(x.unit(text.charAt(i)) ? 1L : 0L);
            }
            answers.add((long) x.word());
        }
    }

    private static void goOnWithTheCode(CodedLetters x, List<Long> answers) {
        answers.add((long) x.hint());
        answers.add((long) x.hint());
        answers.add((long) x.run(100000));
        askOfReadings(x, answers);
        for (int v : new int[] {-1, 0, -1, 7}) {
            answers.add(x.sign(v) ? 1L : 0L);
        }
        answers.add((long) x.run(100000));
        askOfReadings(x, answers);
        answers.add(x.keep(7, 0) ? 1L : 0L);
        answers.add((long) x.run(100000));
        askOfReadings(x, answers);
        x.clear();
        for (int v : new int[] {0, 1, -1, 2, 1}) {
            answers.add(x.sign(v) ? 1L : 0L);
        }
        answers.add((long) x.run(100000));
        askOfReadings(x, answers);
        due("the view fits into " + MOST_CALLS + " calls", answers.size() < MOST_CALLS - 220, true);
    }
}
