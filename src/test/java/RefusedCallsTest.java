import java.util.ArrayList;
import java.util.List;
import java.util.function.Consumer;
import java.util.function.ToIntFunction;

/**
 * "NONE, and nothing happens": of two objects that were made alike, one gets a call that is refused
 * (or that only looks); all that can be asked of both is alike then, as is all that they do later.
 */
public final class RefusedCallsTest {
    private static final int NONE = LetterSieve.NONE;
    private static final int FALSE = 0;

    private RefusedCallsTest() {
    }

    public static void main(String[] args) {
        ofNothing();
        ofTexts();
        ofLetters();
        ofMoves();
        ofCosts();
        ofFading();
        ofLooks();
        Checks.finish("RefusedCallsTest");
    }

    private static void refused(String call, Consumer<LetterSieve> making,
            ToIntFunction<LetterSieve> calling, int want) {
        LetterSieve called = new LetterSieve();
        LetterSieve twin = new LetterSieve();
        making.accept(called);
        making.accept(twin);
        Checks.due(call, calling.applyAsInt(called), want);
        List<Integer> answers = allOf(called);
        List<Integer> due = allOf(twin);
        for (int i = 0; i < due.size(); i++) {
            Checks.due(call + ", answer " + i + " behind it", answers.get(i), due.get(i));
        }
    }

    /** Some of everything: RULES told and LEARNT, LETTERS, MOVES, COSTS, a TAPE of 17 bytes. */
    private static void some(LetterSieve x) {
        x.cost(0, 2);
        x.cost(13, 7);
        for (int i = 0; i < 5; i++) {
            x.letter(3, NONE, 10 * i, i);
            x.move(i, i < 4 ? 5 : 0);
        }
        x.learn();
        Checks.tell(x, "if word 2 to 6");
        Checks.tell(x, "if from 9 and below 7 to 1");
        x.letter(9, 2, 6, 8);
        x.letter(3, 2, 6, 3);
        x.move(6, 2);
        x.letter(8, 4, 6, 9);
        Checks.tape(x, "if above 444 to 4");
    }

    private static void tenHandRules(LetterSieve x) {
        some(x);
        x.end(0);
        for (int i = 2; i < 10; i++) {
            Checks.tell(x, "if list 7 to 3");
        }
        Checks.tape(x, "all to 4");
    }

    private static void hundredLetters(LetterSieve x) {
        some(x);
        for (int i = 8; i < 100; i++) {
            x.letter(i % 16, i % 8, i, i);
        }
    }

    private static void twoHundredMoves(LetterSieve x) {
        some(x);
        for (int i = 6; i < 200; i++) {
            x.move(i % 4, 5);
        }
    }

    private static void nothing(LetterSieve x) {
        x.count(0);
    }

    private static List<Integer> allOf(LetterSieve x) {
        List<Integer> answers = new ArrayList<>();
        looks(x, answers);
        doings(x, answers);
        looks(x, answers);
        return answers;
    }

    private static void looks(LetterSieve x, List<Integer> answers) {
        for (int what = 0; what < 14; what++) {
            answers.add(x.count(what < 6 ? what : what + 14));
        }
        int rules = answers.get(answers.size() - 13) + answers.get(answers.size() - 12);
        for (int k = Math.max(0, rules - 5); k < rules; k++) {
            for (int what = 0; what < 4; what++) {
                answers.add(x.rule(k, what < 2 ? what : what + 8));
                answers.add(x.record(k, what));
            }
        }
        int[] letters = {0, 1, 4, 5, 6, 7, 99};
        for (int letter : letters) {
            for (int what = 0; what < 5; what++) {
                answers.add(x.about(letter, what));
            }
        }
        for (int i = 0; i < 5; i++) {
            answers.add(x.learnt(i));
            answers.add(x.heaped(8 * i));
        }
        answers.add(x.again());
        answers.add(x.differs(1));
    }

    /** What shows the TAPE, the COSTS and the MOVES, which can't be looked at. */
    private static void doings(LetterSieve x, List<Integer> answers) {
        answers.add(x.hand());
        for (int what = 0; what < 10; what++) {
            answers.add(x.cost(what < 2 ? what : what + 8, 1));
        }
        for (int i = 0; i < 4; i++) {
            answers.add(x.undo());
        }
        answers.add(x.letter(3, NONE, 500, 0));
        answers.add(x.learn());
    }

    private static void ofNothing() {
        Checks.says("NONE without one");
        refused("undo()", RefusedCallsTest::nothing, LetterSieve::undo, NONE);
        refused("end(1)", RefusedCallsTest::nothing, x -> x.end(1), NONE);
        refused("drop(0)", RefusedCallsTest::nothing, x -> x.drop(0) ? 1 : 0, FALSE);
        refused("move(0, 0)", RefusedCallsTest::nothing, x -> x.move(0, 0) ? 1 : 0, FALSE);
        refused("fade(100)", RefusedCallsTest::nothing, x -> x.fade(100), 0);
    }

    private static void ofTexts() {
        Checks.says("NONE, and none comes: it would have more than 100");
        for (int length : new int[] {81, 90, 99, 100}) {
            Consumer<LetterSieve> full = x -> {
                some(x);
                x.end(0);
                Checks.tape(x, "all to 4" + " ".repeat(length - 8));
            };
            refused("feed behind " + length, full, x -> x.feed(1, 2, 3, 4, 5), NONE);
        }
        Checks.says("NONE, and nothing happens, if it has not so many, or n is below 0");
        for (int n : new int[] {Integer.MIN_VALUE, -1, 18, 20, 100, 101, Integer.MAX_VALUE}) {
            refused("end(" + n + ")", RefusedCallsTest::some, x -> x.end(n), NONE);
        }
        refused("end(17), as long as it is", RefusedCallsTest::some, x -> x.end(17), 17);
        Checks.says("NONE, and nothing happens: there are 10");
        refused("hand()", RefusedCallsTest::tenHandRules, LetterSieve::hand, NONE);
        Checks.says("A HAND RULE goes: true; false without it.");
        for (int rule : new int[] {Integer.MIN_VALUE, -1, 2, 9, 10, 100, Integer.MAX_VALUE}) {
            refused("drop(" + rule + ")", RefusedCallsTest::some, x -> x.drop(rule) ? 1 : 0, FALSE);
        }
    }

    private static void ofLetters() {
        Checks.says("NONE: there are 100, or something is not as told");
        int[][] wrong = {{-1, 0, 0, 0}, {16, 0, 0, 0}, {0, -2, 0, 0}, {0, 8, 0, 0}, {0, 0, -1, 0},
            {0, 0, 1000, 0}, {0, 0, 0, -1}, {0, 0, 0, 65536}, {16, 8, 1000, 65536}};
        for (int[] w : wrong) {
            refused("letter " + w[0] + " " + w[1] + " " + w[2] + " " + w[3],
                    RefusedCallsTest::some, x -> x.letter(w[0], w[1], w[2], w[3]), NONE);
        }
        refused("a letter more", RefusedCallsTest::hundredLetters, x -> x.letter(3, 1, 1, 1), NONE);
    }

    private static void ofMoves() {
        Checks.says("A MOVE: true; false, and nothing happens: none such, or 200 MOVES.");
        int[][] wrong = {{-1, 0}, {8, 0}, {99, 0}, {100, 0}, {0, -1}, {0, 8}, {8, 8},
            {Integer.MIN_VALUE, 1}, {Integer.MAX_VALUE, 1}, {1, Integer.MIN_VALUE},
            {1, Integer.MAX_VALUE}};
        for (int[] w : wrong) {
            refused("move(" + w[0] + ", " + w[1] + ")", RefusedCallsTest::some,
                    x -> x.move(w[0], w[1]) ? 1 : 0, FALSE);
        }
        for (int folder = 0; folder < 8; folder++) {
            int to = folder;
            refused("a move more", RefusedCallsTest::twoHundredMoves,
                    x -> x.move(7, to) ? 1 : 0, FALSE);
        }
    }

    private static void ofCosts() {
        Checks.says("what it was; NONE, and nothing happens, for others");
        int[][] wrong = {{0, -1}, {0, 101}, {1, -1}, {1, 101}, {10, -1}, {10, 1001}, {17, -1},
            {17, 1001}, {2, 1}, {9, 1}, {18, 1}, {-1, 1}, {Integer.MIN_VALUE, 1},
            {Integer.MAX_VALUE, 1}, {0, Integer.MIN_VALUE}, {17, Integer.MAX_VALUE}};
        for (int[] w : wrong) {
            refused("cost(" + w[0] + ", " + w[1] + ")", RefusedCallsTest::some,
                    x -> x.cost(w[0], w[1]), NONE);
        }
    }

    private static void ofFading() {
        Checks.says("NONE, and nothing happens, for n not 1 to 100");
        for (int n : new int[] {Integer.MIN_VALUE, -1, 0, 101, Integer.MAX_VALUE}) {
            refused("fade(" + n + ")", RefusedCallsTest::some, x -> x.fade(n), NONE);
        }
    }

    private static void ofLooks() {
        Checks.says("Nothing is promised beyond the answers and state changes described above");
        refused("learnt", RefusedCallsTest::some, x -> x.learnt(2), 5);
        refused("learnt", RefusedCallsTest::some, x -> x.learnt(5), NONE);
        refused("rule", RefusedCallsTest::some, x -> x.rule(2, 0), 100);
        refused("rule", RefusedCallsTest::some, x -> x.rule(3, 0), NONE);
        refused("record", RefusedCallsTest::some, x -> x.record(2, 0), 1);
        refused("record", RefusedCallsTest::some, x -> x.record(0, 4), NONE);
        refused("both", RefusedCallsTest::some, x -> x.both(0, 2), 4);
        refused("both", RefusedCallsTest::some, x -> x.both(0, 3), NONE);
        refused("about", RefusedCallsTest::some, x -> x.about(6, 3), 2);
        refused("about", RefusedCallsTest::some, x -> x.about(8, 0), NONE);
        refused("heap", RefusedCallsTest::some, x -> x.heap(1), 8);
        refused("heap", RefusedCallsTest::some, x -> x.heap(101), NONE);
        refused("heaped", RefusedCallsTest::some, x -> x.heaped(20), 1);
        refused("heaped", RefusedCallsTest::some, x -> x.heaped(40), NONE);
        refused("again", RefusedCallsTest::some, LetterSieve::again, 5);
        refused("differs", RefusedCallsTest::some, x -> x.differs(4), 4);
        refused("differs", RefusedCallsTest::some, x -> x.differs(5), NONE);
        refused("count", RefusedCallsTest::some, x -> x.count(25), 4);
        refused("count", RefusedCallsTest::some, x -> x.count(28), NONE);
    }
}
