import java.nio.charset.StandardCharsets;

/** Counts answers that are not as due, and tells texts to a sieve. */
final class Checks {
    static final int NONE = LetterSieve.NONE;

    private static int asked = 0;
    private static int wrong = 0;
    private static String sentence = "";

    private Checks() {
    }

    /** The sentence of the document that the answers from here on are due by. */
    static void says(String quoted) {
        sentence = "'" + quoted + "': ";
    }

    static void due(String what, int got, int want) {
        asked++;
        if (got != want) {
            wrong++;
            System.out.println(sentence + what + " answered " + got + ", due is " + want);
        }
    }

    static void due(String what, boolean got, boolean want) {
        due(what, got ? 1 : 0, want ? 1 : 0);
    }

    /** Ends the program: with exit code 1 if an answer was not as due. */
    static void finish(String test) {
        System.out.println(test + ": " + asked + " answers, " + wrong + " not as due");
        System.exit(wrong == 0 ? 0 : 1);
    }

    /** Feeds the first twenty bytes of a row from a place on, zeros behind its end. */
    static int feed(LetterSieve sieve, byte[] bytes, int from) {
        int[] numbers = new int[5];
        for (int i = 0; i < 20; i++) {
            int next = from + i < bytes.length ? bytes[from + i] & 255 : 0;
            numbers[i / 4] = numbers[i / 4] << 8 | next;
        }
        return sieve.feed(numbers[0], numbers[1], numbers[2], numbers[3], numbers[4]);
    }

    /** Puts a text of 100 bytes at most onto the empty TAPE. */
    static void tape(LetterSieve sieve, String text) {
        byte[] bytes = text.getBytes(StandardCharsets.ISO_8859_1);
        for (int from = 0; from < bytes.length; from += 20) {
            feed(sieve, bytes, from);
        }
        sieve.end(bytes.length);
    }

    static int tell(LetterSieve sieve, String text) {
        tape(sieve, text);
        return sieve.hand();
    }

    /** A text on a new object, with the FAULT that is due. */
    static void fault(String text, int place, int kind) {
        LetterSieve sieve = new LetterSieve();
        due("hand() of '" + text + "'", tell(sieve, text), -2 - (1 + 8 * place + kind));
        due("HAND RULES behind '" + text + "'", sieve.count(1), 0);
    }

    /** A text on a new object that is a RULE: its FOLDER and CODES are due. */
    static void taken(String text, int folder, int... codes) {
        LetterSieve sieve = new LetterSieve();
        due("hand() of '" + text + "'", tell(sieve, text), 0);
        dueRule("'" + text + "'", sieve, 0, folder, codes);
    }

    static void dueRule(String what, LetterSieve sieve, int k, int folder, int... codes) {
        due(what + " FOLDER", sieve.rule(k, 1), folder);
        due(what + " TESTS", sieve.rule(k, 2), codes.length);
        for (int i = 0; i < 4; i++) {
            int code = i < codes.length ? codes[i] : NONE;
            due(what + " CODE " + i, sieve.rule(k, 10 + i), code);
        }
    }

    /** A LETTER that is from 0, without a LIST, a SIZE and WORDS, unless told. */
    static int plain(LetterSieve sieve, int from) {
        return sieve.letter(from, NONE, 0, 0);
    }
}
