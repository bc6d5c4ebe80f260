import java.nio.charset.StandardCharsets;
import java.util.Random;

/** Runs of 512 calls, drawn from fixed seeds, on the class and on PlainSieve side by side. */
public final class RandomRunsTest {
    private static final int RUNS = 120;
    private static final int CALLS = 512;
    private static final String[] KINDS = {"from", "list", "word", "above", "below"};
    private static final int[] GREATEST = {15, 7, 15, 999, 999};

    private final Random random;
    private final LetterSieve sieve = new LetterSieve();
    private final PlainSieve plain = new PlainSieve();
    private final int run;
    /** How many of the senders, lists and words are used: few make many ties and common codes. */
    private final int variety;
    private final int talk;
    private int calls = 0;

    private RandomRunsTest(int run) {
        this.run = run;
        this.random = new Random(run);
        this.variety = 2 + random.nextInt(15);
        this.talk = random.nextInt(3);
    }

    public static void main(String[] args) {
        for (int run = 0; run < RUNS; run++) {
            new RandomRunsTest(run).play();
        }
        Checks.finish("RandomRunsTest");
    }

    private void due(String call, int got, int want) {
        calls++;
        Checks.due("run " + run + " call " + calls + ": " + call, got, want);
    }

    private void play() {
        if (random.nextInt(3) == 0) {
            changeCosts();
        }
        while (calls < CALLS) {
            int draw = random.nextInt(100);
            if (draw < 4 + 4 * talk) {
                tellRule();
            } else if (draw < 42) {
                come();
            } else if (draw < 62) {
                belong();
            } else if (draw < 65) {
                due("undo()", sieve.undo(), plain.undo());
            } else if (draw < 69) {
                learn();
            } else if (draw < 71) {
                int n = random.nextInt(4) == 0 ? odd(101) : 1 + random.nextInt(60);
                due("fade(" + n + ")", sieve.fade(n), plain.fade(n));
            } else if (draw < 73) {
                int rule = odd(10);
                due("drop(" + rule + ")", sieve.drop(rule) ? 1 : 0, plain.drop(rule));
            } else {
                look();
            }
        }
    }

    /** Mostly 0 to bound, now and then anything. */
    private int odd(int bound) {
        switch (random.nextInt(30)) {
            case 0:
                return random.nextInt();
            case 1:
                return -1 - random.nextInt(3);
            case 2:
                return bound + random.nextInt(3);
            case 3:
                return random.nextBoolean() ? Integer.MIN_VALUE : Integer.MAX_VALUE;
            default:
                return random.nextInt(bound);
        }
    }

    private void changeCosts() {
        for (int i = 0; i < 6; i++) {
            int what = random.nextInt(3) == 0 ? odd(2) : 10 + odd(8);
            int coins = random.nextInt(3) == 0 ? odd(1001) : odd(12);
            due("cost(" + what + ", " + coins + ")", sieve.cost(what, coins),
                    plain.cost(what, coins));
        }
    }

    private String text() {
        StringBuilder text = new StringBuilder();
        int tests = random.nextInt(8) == 0 ? random.nextInt(7) : random.nextInt(3);
        for (int i = 0; i < tests; i++) {
            int kind = random.nextInt(5);
            text.append(i == 0 ? "if " : " and ").append(KINDS[kind]).append(' ');
            text.append(random.nextInt(30) == 0 ? GREATEST[kind] + 1
                    : random.nextInt(Math.min(GREATEST[kind] + 1, 100 * variety)));
        }
        text.append(tests == 0 ? "all to " : " to ").append(random.nextInt(8));
        if (tests == 0 && random.nextInt(3) != 0) {
            return "if above 99" + random.nextInt(10) + " to " + random.nextInt(8);
        }
        return text.toString();
    }

    private String spoilt(String text) {
        StringBuilder spoilt = new StringBuilder(text);
        int place = random.nextInt(spoilt.length() + 1);
        String bytes = "  0179azfto;A\u0000\u00ff";
        char odd = bytes.charAt(random.nextInt(bytes.length()));
        if (random.nextInt(4) == 0 || place == spoilt.length()) {
            spoilt.insert(place, odd);
        } else if (random.nextInt(3) == 0) {
            spoilt.deleteCharAt(place);
        } else if (random.nextBoolean()) {
            spoilt.setLength(place);
        } else {
            spoilt.setCharAt(place, odd);
        }
        return spoilt.toString();
    }

    private void tellRule() {
        String text = text();
        for (int i = random.nextInt(4); i > 1; i--) {
            text = spoilt(text);
        }
        byte[] bytes = text.getBytes(StandardCharsets.ISO_8859_1);
        for (int from = 0; from < bytes.length; from += 20) {
            int[] five = new int[5];
            for (int i = 0; i < 20 && from + i < bytes.length; i++) {
                five[i / 4] |= (bytes[from + i] & 255) << 24 - i % 4 * 8;
            }
            due("feed", sieve.feed(five[0], five[1], five[2], five[3], five[4]), plain.feed(five));
        }
        int end = random.nextInt(15) == 0 ? odd(101) : bytes.length;
        due("end(" + end + ")", sieve.end(end), plain.end(end));
        if (random.nextInt(20) != 0) {
            due("hand() of '" + text + "'", sieve.hand(), plain.hand());
        }
    }

    private void come() {
        int from = random.nextInt(40) == 0 ? odd(16) : random.nextInt(Math.min(16, variety));
        int list = random.nextInt(40) == 0 ? odd(8) : random.nextInt(Math.min(8, variety) + 1) - 1;
        int size = random.nextInt(40) == 0 ? odd(1000) : random.nextInt(1000);
        int words = random.nextInt(40) == 0 ? odd(65536)
                : random.nextInt(65536) & random.nextInt(65536) & (1 << Math.min(16, variety)) - 1;
        due("letter(" + from + ", " + list + ", " + size + ", " + words + ")",
                sieve.letter(from, list, size, words), plain.letter(from, list, size, words));
    }

    /** A move, mostly by a habit that can be learnt. */
    private void belong() {
        int letter = random.nextInt(20) == 0 ? odd(100) : random.nextInt(plain.count(0) + 1);
        int folder = random.nextInt(6) == 0 ? odd(8) : habit(letter);
        due("move(" + letter + ", " + folder + ")", sieve.move(letter, folder) ? 1 : 0,
                plain.move(letter, folder));
    }

    private int habit(int letter) {
        int[] codes = {run % 16, 16 + run % 8, 24 + run % 5, 27 + run % 3, 24, 0};
        for (int i = 0; i < codes.length; i++) {
            if (plain.passes(letter, codes[i])) {
                return (run + 3 * i) % 8;
            }
        }
        return run % 7 == 0 ? 5 : 0;
    }

    private void learn() {
        due("learn()", sieve.learn(), plain.learn());
        for (int what = 0; what < 5; what++) {
            due("learnt(" + what + ")", sieve.learnt(what), plain.learnt(what));
        }
        int k = plain.count(1) + random.nextInt(6);
        for (int what = 0; what < 3; what++) {
            due("rule(" + k + ", " + what + ")", sieve.rule(k, what), plain.rule(k, what));
        }
    }

    private void look() {
        int a = odd(17);
        int b = odd(17);
        int what = odd(6);
        switch (random.nextInt(11)) {
            case 0:
                due("rule(" + a + ", " + b + ")", sieve.rule(a, b), plain.rule(a, b));
                break;
            case 1:
                due("record(" + a + ", " + what + ")", sieve.record(a, what),
                        plain.record(a, what));
                break;
            case 2:
                due("both(" + a + ", " + b + ")", sieve.both(a, b), plain.both(a, b));
                break;
            case 3:
                int letter = odd(100);
                due("about(" + letter + ", " + what + ")", sieve.about(letter, what),
                        plain.about(letter, what));
                break;
            case 4:
                int n = random.nextBoolean() ? odd(101) : odd(8);
                due("heap(" + n + ")", sieve.heap(n), plain.heap(n));
                break;
            case 5:
                int code = odd(41);
                due("heaped(" + code + ")", sieve.heaped(code), plain.heaped(code));
                break;
            case 6:
                due("again()", sieve.again(), plain.again());
                break;
            case 7:
                int k = odd(40);
                due("differs(" + k + ")", sieve.differs(k), plain.differs(k));
                break;
            case 8:
                int folder = 20 + odd(8);
                due("count(" + folder + ")", sieve.count(folder), plain.count(folder));
                break;
            case 9:
                due("count(" + what + ")", sieve.count(what), plain.count(what));
                break;
            default:
                due("learnt(" + what + ")", sieve.learnt(what), plain.learnt(what));
                break;
        }
    }
}
