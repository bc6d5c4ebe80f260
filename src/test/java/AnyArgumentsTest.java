import java.nio.charset.StandardCharsets;

/**
 * "The promises hold for every run of at most 512 calls on one object, with any arguments": each
 * call with edges of all kinds, on an object without anything, on one with some and on full ones.
 */
public final class AnyArgumentsTest {
    private static final int NONE = LetterSieve.NONE;
    private static final int STATES = 5;
    private static final int[] EDGES = {Integer.MIN_VALUE, Integer.MIN_VALUE + 1,
        Integer.MIN_VALUE + 10, Integer.MIN_VALUE + 20, -101, -2, -1, 0, 1, 2, 3, 4, 5, 6, 7, 8, 9,
        10, 11, 12, 13, 14, 15, 16, 17, 18, 19, 20, 21, 27, 28, 39, 40, 99, 100, 101, 102, 200, 256,
        999, 1000, 1001, 1100, 2099, 65535, 65536, Integer.MAX_VALUE - 10, Integer.MAX_VALUE};
    /** Few enough for each with each, within 512 calls. */
    private static final int[] FEW = {Integer.MIN_VALUE, -2, -1, 0, 1, 2, 3, 5, 7, 8, 10, 13, 14,
        15, 99, 100, 1000, Integer.MAX_VALUE};

    private AnyArgumentsTest() {
    }

    public static void main(String[] args) {
        for (int state = 0; state < STATES; state++) {
            looks(state);
            pairsOfNumbers(state);
            changes(state);
        }
        letters();
        Checks.finish("AnyArgumentsTest");
    }

    private static void tell(Beside sieves, String text) {
        byte[] bytes = text.getBytes(StandardCharsets.ISO_8859_1);
        for (int from = 0; from < bytes.length; from += 20) {
            int[] five = new int[5];
            for (int i = 0; i < 20 && from + i < bytes.length; i++) {
                five[i / 4] |= (bytes[from + i] & 255) << 24 - i % 4 * 8;
            }
            sieves.feed(five);
        }
        sieves.end(bytes.length);
        sieves.hand();
    }

    /** State 0 has nothing, 1 some, 2 all RULES there can be, 3 all LETTERS, 4 many MOVES. */
    private static Beside made(int state) {
        Beside sieves = new Beside("state " + state);
        int letters = new int[] {0, 9, 14, 100, 3}[state];
        sieves.cost(0, 1);
        for (int i = 0; i < letters; i++) {
            sieves.letter(i % 7, i % 9 - 1, i * 10 % 1000, i % 7);
            if (i % 10 < 8) {
                sieves.move(i, 1 + i % 7);
            }
        }
        for (int i = 0; i < 60 && state == 4; i++) {
            sieves.move(i % 3, i % 8);
        }
        if (state > 0) {
            sieves.learn();
        }
        for (int i = 0; i < 10 && state == 2; i++) {
            tell(sieves, "if above 9" + i + " to 2");
        }
        if (state == 1) {
            tell(sieves, "if from 2 and word 1 to 3");
            tell(sieves, "all to 5");
            sieves.letter(2, NONE, 5, 7);
        }
        sieves.feed(new int[] {0x616c6c20, 0x746f2033, 0x20202020, 0x20202020, 0x20202020});
        return sieves;
    }

    private static void looks(int state) {
        for (int call = 0; call < 5; call++) {
            Beside sieves = made(state);
            for (int n : EDGES) {
                sieves.look(call, n);
            }
            sieves.again();
        }
    }

    private static void pairsOfNumbers(int state) {
        for (int call = 0; call < 4; call++) {
            Beside first = made(state);
            Beside second = made(state);
            for (int k : FEW) {
                for (int l : FEW) {
                    (k < 3 ? first : second).look(call, k, l);
                }
            }
        }
    }

    private static void changes(int state) {
        for (int call = 0; call < 6; call++) {
            Beside sieves = made(state);
            for (int n : EDGES) {
                change(sieves, call, n);
            }
            sieves.again();
            sieves.undo();
            sieves.learn();
            sieves.hand();
            for (int what = 0; what < 28; what++) {
                sieves.look(4, what);
            }
        }
    }

    private static void change(Beside sieves, int call, int n) {
        switch (call) {
            case 0:
                sieves.end(n);
                break;
            case 1:
                sieves.drop(n);
                break;
            case 2:
                sieves.move(n, 4);
                sieves.move(0, n);
                break;
            case 3:
                sieves.cost(n, 10);
                sieves.cost(0, n);
                sieves.cost(1, n);
                sieves.cost(17, n);
                break;
            case 4:
                sieves.fade(n);
                sieves.undo();
                break;
            default:
                sieves.feed(new int[] {n, n, n, n, n});
                sieves.hand();
                break;
        }
    }

    private static void letters() {
        for (int place = 0; place < 4; place++) {
            Beside sieves = new Beside("letters, place " + place);
            for (int n : EDGES) {
                sieves.letter(place == 0 ? n : 15, place == 1 ? n : 7, place == 2 ? n : 999,
                        place == 3 ? n : 65535);
                sieves.look(4, 0);
            }
        }
    }
}
