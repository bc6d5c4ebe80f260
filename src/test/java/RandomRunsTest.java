import java.nio.charset.StandardCharsets;
import java.util.Random;

/** Runs of 512 calls, drawn from fixed seeds, on the class and on PlainSieve side by side. */
public final class RandomRunsTest {
    private static final int RUNS = 120;
    private static final String[] KINDS = {"from", "list", "word", "above", "below"};
    private static final int[] GREATEST = {15, 7, 15, 999, 999};

    private final Random random;
    private final Beside sieves;
    private final int run;
    /** How many of the senders, lists and words are used: few make many ties and common codes. */
    private final int variety;
    private final int talk;

    private RandomRunsTest(int run) {
        this.run = run;
        this.random = new Random(run);
        this.sieves = new Beside("run " + run);
        this.variety = 2 + random.nextInt(15);
        this.talk = random.nextInt(3);
    }

    public static void main(String[] args) {
        for (int run = 0; run < RUNS; run++) {
            new RandomRunsTest(run).play();
        }
        Checks.finish("RandomRunsTest");
    }

    private void play() {
        if (random.nextInt(3) == 0) {
            changeCosts();
        }
        while (!sieves.isOver()) {
            int draw = random.nextInt(100);
            if (draw < 4 + 4 * talk) {
                tellRule();
            } else if (draw < 42) {
                come();
            } else if (draw < 62) {
                belong();
            } else if (draw < 65) {
                sieves.undo();
            } else if (draw < 69) {
                learn();
            } else if (draw < 71) {
                int n = random.nextInt(4) == 0 ? odd(101) : 1 + random.nextInt(60);
                sieves.fade(n);
            } else if (draw < 73) {
                sieves.drop(odd(10));
            } else {
                look();
            }
        }
    }

    /** Mostly 0 to bound, now and then anything. */
    private int odd(int bound) {
        switch (random.nextInt(30)) {
            case 0:
                return random.nextInt();
            case 1:
                return -1 - random.nextInt(3);
            case 2:
                return bound + random.nextInt(3);
            case 3:
                return random.nextBoolean() ? Integer.MIN_VALUE : Integer.MAX_VALUE;
            default:
                return random.nextInt(bound);
        }
    }

    private void changeCosts() {
        for (int i = 0; i < 6; i++) {
            int what = random.nextInt(3) == 0 ? odd(2) : 10 + odd(8);
            int coins = random.nextInt(3) == 0 ? odd(1001) : odd(12);
            sieves.cost(what, coins);
        }
    }

    private String text() {
        StringBuilder text = new StringBuilder();
        int tests = random.nextInt(8) == 0 ? random.nextInt(7) : random.nextInt(3);
        for (int i = 0; i < tests; i++) {
            int kind = random.nextInt(5);
            text.append(i == 0 ? "if " : " and ").append(KINDS[kind]).append(' ');
            text.append(random.nextInt(30) == 0 ? GREATEST[kind] + 1
                    : random.nextInt(Math.min(GREATEST[kind] + 1, 100 * variety)));
        }
        text.append(tests == 0 ? "all to " : " to ").append(random.nextInt(8));
        if (tests == 0 && random.nextInt(3) != 0) {
            return "if above 99" + random.nextInt(10) + " to " + random.nextInt(8);
        }
        return text.toString();
    }

    private String spoilt(String text) {
        StringBuilder spoilt = new StringBuilder(text);
        int place = random.nextInt(spoilt.length() + 1);
        String bytes = "  0179azfto;A\u0000\u00ff";
        char odd = bytes.charAt(random.nextInt(bytes.length()));
        if (random.nextInt(4) == 0 || place == spoilt.length()) {
            spoilt.insert(place, odd);
        } else if (random.nextInt(3) == 0) {
            spoilt.deleteCharAt(place);
        } else if (random.nextBoolean()) {
            spoilt.setLength(place);
        } else {
            spoilt.setCharAt(place, odd);
        }
        return spoilt.toString();
    }

    private void tellRule() {
        String text = text();
        for (int i = random.nextInt(4); i > 1; i--) {
            text = spoilt(text);
        }
        byte[] bytes = text.getBytes(StandardCharsets.ISO_8859_1);
        for (int from = 0; from < bytes.length; from += 20) {
            int[] five = new int[5];
            for (int i = 0; i < 20 && from + i < bytes.length; i++) {
                five[i / 4] |= (bytes[from + i] & 255) << 24 - i % 4 * 8;
            }
            sieves.feed(five);
        }
        sieves.end(random.nextInt(15) == 0 ? odd(101) : bytes.length);
        if (random.nextInt(20) != 0) {
            sieves.hand();
        }
    }

    private void come() {
        int from = random.nextInt(40) == 0 ? odd(16) : random.nextInt(Math.min(16, variety));
        int list = random.nextInt(40) == 0 ? odd(8) : random.nextInt(Math.min(8, variety) + 1) - 1;
        int size = random.nextInt(40) == 0 ? odd(1000) : random.nextInt(1000);
        int words = random.nextInt(40) == 0 ? odd(65536)
                : random.nextInt(65536) & random.nextInt(65536) & (1 << Math.min(16, variety)) - 1;
        sieves.letter(from, list, size, words);
    }

    /** A move, mostly by a habit that can be learnt. */
    private void belong() {
        int there = sieves.plain().count(0);
        int letter = random.nextInt(20) == 0 ? odd(100) : random.nextInt(there + 1);
        int folder = random.nextInt(6) == 0 ? odd(8) : habit(letter);
        sieves.move(letter, folder);
    }

    private int habit(int letter) {
        int[] codes = {run % 16, 16 + run % 8, 24 + run % 5, 27 + run % 3, 24, 0};
        for (int i = 0; i < codes.length; i++) {
            if (sieves.plain().passes(letter, codes[i])) {
                return (run + 3 * i) % 8;
            }
        }
        return run % 7 == 0 ? 5 : 0;
    }

    private void learn() {
        sieves.learn();
        for (int what = 0; what < 5; what++) {
            sieves.look(0, what);
        }
        int k = sieves.plain().count(1) + random.nextInt(6);
        for (int what = 0; what < 3; what++) {
            sieves.look(0, k, what);
        }
    }

    private void look() {
        int[] bounds = {6, random.nextBoolean() ? 101 : 8, 41, 40, 6};
        int call = random.nextInt(11);
        if (call < 3) {
            sieves.look(call, odd(17), odd(call == 1 ? 6 : 17));
        } else if (call == 3) {
            sieves.look(call, odd(100), odd(6));
        } else if (call < 9) {
            sieves.look(call - 4, odd(bounds[call - 4]));
        } else if (call == 9) {
            sieves.look(4, 20 + odd(8));
        } else {
            sieves.again();
        }
    }
}
