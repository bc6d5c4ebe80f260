/** The class and PlainSieve side by side: each call goes to both, and the answers are compared. */
final class Beside {
    private static final int MOST_CALLS = 512;

    private final String run;
    private final LetterSieve sieve = new LetterSieve();
    private final PlainSieve plain = new PlainSieve();
    private int calls = 0;

    Beside(String run) {
        this.run = run;
    }

    boolean isOver() {
        return calls >= MOST_CALLS;
    }

    /** The one to look into without a call being counted. */
    PlainSieve plain() {
        return plain;
    }

    private int due(String call, int got, int want) {
        calls++;
        if (calls <= MOST_CALLS) {
            Checks.due(run + ", call " + calls + ": " + call, got, want);
        }
        return want;
    }

    int feed(int[] five) {
        return due("feed", sieve.feed(five[0], five[1], five[2], five[3], five[4]),
                plain.feed(five));
    }

    int end(int n) {
        return due("end(" + n + ")", sieve.end(n), plain.end(n));
    }

    int hand() {
        return due("hand()", sieve.hand(), plain.hand());
    }

    int drop(int rule) {
        return due("drop(" + rule + ")", sieve.drop(rule) ? 1 : 0, plain.drop(rule));
    }

    int letter(int from, int list, int size, int words) {
        return due("letter(" + from + ", " + list + ", " + size + ", " + words + ")",
                sieve.letter(from, list, size, words), plain.letter(from, list, size, words));
    }

    int move(int letter, int folder) {
        return due("move(" + letter + ", " + folder + ")", sieve.move(letter, folder) ? 1 : 0,
                plain.move(letter, folder));
    }

    int undo() {
        return due("undo()", sieve.undo(), plain.undo());
    }

    int cost(int what, int coins) {
        return due("cost(" + what + ", " + coins + ")", sieve.cost(what, coins),
                plain.cost(what, coins));
    }

    int learn() {
        return due("learn()", sieve.learn(), plain.learn());
    }

    int fade(int n) {
        return due("fade(" + n + ")", sieve.fade(n), plain.fade(n));
    }

    /** The calls of one number that change nothing: 0 learnt, 1 heap, 2 heaped, 3 differs, 4 count. */
    int look(int call, int n) {
        switch (call) {
            case 0:
                return due("learnt(" + n + ")", sieve.learnt(n), plain.learnt(n));
            case 1:
                return due("heap(" + n + ")", sieve.heap(n), plain.heap(n));
            case 2:
                return due("heaped(" + n + ")", sieve.heaped(n), plain.heaped(n));
            case 3:
                return due("differs(" + n + ")", sieve.differs(n), plain.differs(n));
            default:
                return due("count(" + n + ")", sieve.count(n), plain.count(n));
        }
    }

    /** The calls of two numbers that change nothing: 0 rule, 1 record, 2 both, 3 about. */
    int look(int call, int k, int l) {
        String numbers = "(" + k + ", " + l + ")";
        switch (call) {
            case 0:
                return due("rule" + numbers, sieve.rule(k, l), plain.rule(k, l));
            case 1:
                return due("record" + numbers, sieve.record(k, l), plain.record(k, l));
            case 2:
                return due("both" + numbers, sieve.both(k, l), plain.both(k, l));
            default:
                return due("about" + numbers, sieve.about(k, l), plain.about(k, l));
        }
    }

    int again() {
        return due("again()", sieve.again(), plain.again());
    }
}
