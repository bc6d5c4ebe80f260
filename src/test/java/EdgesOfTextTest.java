/** The sentences on the TAPE and the text of a HAND RULE that name an edge, each by itself. */
public final class EdgesOfTextTest {
    private static final int NONE = LetterSieve.NONE;
    private static final int BLANKS = 0x20202020;
    private static final int XS = 0x78787878;
    private static final String FOUR_TESTS = "if word 1 and word 2 and word 3 and word 4";
    private static final String AHEAD_OF_FIFTH = FOUR_TESTS + " and ";

    private EdgesOfTextTest() {
    }

    public static void main(String[] args) {
        orderOfBytes();
        fullTape();
        nothingComes();
        firstBytesAlone();
        noSuchEnd();
        emptyThen();
        leastNumber();
        thereAreTen();
        wordsAndBlanks();
        everyByte();
        digits();
        bounds();
        grammar();
        theEnd();
        firstAlongTheText();
        fifthTest();
        behindTheRule();
        hundredBytes();
        Checks.finish("EdgesOfTextTest");
    }

    private static void due(String what, int got, int want) {
        Checks.due(what, got, want);
    }

    private static void says(String quoted) {
        Checks.says(quoted);
    }

    private static void fault(String text, int place, int kind) {
        Checks.fault(text, place, kind);
    }

    private static String padded(String text, int length) {
        StringBuilder padded = new StringBuilder(text);
        while (padded.length() < length) {
            padded.append(' ');
        }
        return padded.toString();
    }

    private static void orderOfBytes() {
        says("Twenty bytes come behind the TAPE, of each number the highest first: how many it has");
        LetterSieve x = new LetterSieve();
        due("feed", x.feed(0x69662062, 0x656c6f77, 0x20352061, 0x6e64206c, 0x69737420), 20);
        due("feed", x.feed(0x3220746f, 0x20372020, BLANKS, BLANKS, BLANKS), 40);
        due("hand", x.hand(), 0);
        Checks.dueRule("in order", x, 0, 7, 1105, 18);
        x.feed(0x616c6ce1, 0x746f2031, BLANKS, BLANKS, BLANKS);
        due("a byte above 127", x.hand(), -2 - (1 + 8 * 3));
        x.feed(0xe16c6c20, 0x746f2031, BLANKS, BLANKS, BLANKS);
        due("a number below 0", x.hand(), -2 - 1);
    }

    private static void fullTape() {
        says("NONE, and none comes: it would have more than 100");
        for (int n = 0; n <= 100; n++) {
            LetterSieve x = new LetterSieve();
            for (int i = 1; i <= 5; i++) {
                due("feed " + i, x.feed(XS, XS, XS, XS, XS), 20 * i);
            }
            due("end(" + n + ")", x.end(n), n);
            due("feed behind " + n, x.feed(XS, XS, XS, XS, XS), n <= 80 ? n + 20 : NONE);
            due("bytes", x.count(4), n <= 80 ? n + 20 : n);
        }
    }

    private static void nothingComes() {
        says("NONE, and none comes: it would have more than 100");
        for (int length = 81; length <= 100; length++) {
            LetterSieve x = new LetterSieve();
            Checks.tape(x, padded("all to 6", length));
            due("feed behind " + length, x.feed(XS, XS, XS, XS, XS), NONE);
            due("the text is as it was", x.hand(), 0);
            due("its folder", x.rule(0, 1), 6);
        }
    }

    private static void firstBytesAlone() {
        says("The TAPE has its first n bytes alone: n");
        LetterSieve x = new LetterSieve();
        Checks.tape(x, "all to 17");
        due("all of them", x.end(9), 9);
        due("one less", x.end(8), 8);
        due("not back again", x.end(9), NONE);
        due("what is left", x.hand(), 0);
        due("its folder", x.rule(0, 1), 1);
        Checks.tape(x, "all nonsense");
        due("four", x.end(4), 4);
        due("behind these", x.feed(0x746f2035, BLANKS, BLANKS, BLANKS, BLANKS), 24);
        due("what it is", x.hand(), 1);
        due("its folder", x.rule(1, 1), 5);
        Checks.tape(x, "all to 1");
        due("none is left", x.end(0), 0);
        due("bytes", x.count(4), 0);
        due("the end at place 0", x.hand(), -2 - 1);
    }

    private static void noSuchEnd() {
        says("NONE, and nothing happens, if it has not so many, or n is below 0");
        int[] wrong = {-1, -8, Integer.MIN_VALUE, 9, 20, 100, 101, 1 << 16, 264, Integer.MAX_VALUE};
        for (int n : wrong) {
            LetterSieve x = new LetterSieve();
            Checks.tape(x, "all to 3");
            due("end(" + n + ")", x.end(n), NONE);
            due("bytes", x.count(4), 8);
            due("the text is as it was", x.hand(), 0);
        }
        LetterSieve y = new LetterSieve();
        due("an empty one has 0", y.end(0), 0);
        due("and not 1", y.end(1), NONE);
        due("nor -1", y.end(-1), NONE);
    }

    private static void emptyThen() {
        says("The TAPE, which is empty then, is a HAND RULE");
        LetterSieve x = new LetterSieve();
        due("a rule", Checks.tell(x, "all to 3"), 0);
        due("empty", x.count(4), 0);
        due("a fault", Checks.tell(x, "all to 3 4"), -2 - (1 + 8 * 9 + 3));
        due("empty", x.count(4), 0);
        due("an empty one has its end at place 0", x.hand(), -2 - 1);
        due("still empty", x.count(4), 0);
        due("places count anew", Checks.tell(x, "all 3"), -2 - (1 + 8 * 4));
        due("faults made none", x.count(1), 1);
    }

    private static void leastNumber() {
        says("its number (the least that is not there)");
        LetterSieve x = new LetterSieve();
        for (int i = 0; i < 10; i++) {
            due("in turn", Checks.tell(x, "all to 1"), i);
        }
        int[] dropped = {9, 0, 5, 4};
        int[] numbers = {0, 4, 5, 9};
        for (int number : dropped) {
            x.drop(number);
        }
        for (int number : numbers) {
            due("the least", Checks.tell(x, "all to 1"), number);
        }
    }

    private static void thereAreTen() {
        says("NONE, and nothing happens: there are 10");
        LetterSieve x = new LetterSieve();
        for (int i = 0; i < 9; i++) {
            Checks.tell(x, "all to 1");
        }
        due("the tenth", Checks.tell(x, "all to 2"), 9);
        Checks.tape(x, "all to 7");
        due("an eleventh", x.hand(), NONE);
        due("the tape", x.count(4), 8);
        due("the rules", x.count(1), 10);
        due("the tenth's folder", x.rule(9, 1), 2);
        due("beyond", x.rule(10, 0), NONE);
        x.drop(9);
        due("with the text that stayed", x.hand(), 9);
        due("its folder", x.rule(9, 1), 7);
        Checks.tape(x, "al");
        due("ten and a fault", x.hand(), NONE);
        due("the tape", x.count(4), 2);
        x.end(0);
        due("ten and no text", x.hand(), NONE);
    }

    private static void wordsAndBlanks() {
        says("WORDS of the text small letters, blanks (32) between");
        Checks.taken("if  from   1    and     list      2       to        3", 3, 1, 18);
        Checks.taken("  all to 1", 1);
        Checks.taken("all to 1   ", 1);
        Checks.taken("if from3and list2to 1", 1, 3, 18);
        String[] first = {"ALL to 1", "All to 1", "alL to 1", "al l to 1", "alll to 1", "a to 1",
            "iff from 1 to 1", "i from 1 to 1", "If from 1 to 1", "to 1", "and from 1 to 1",
            "from 1 to 1", "allto 1", "ifrom 1 to 1", "1 to 1", "ell to 1", "aal to 1", "of from 1 to 1",
            "it from 1 to 1"};
        for (String text : first) {
            fault(text, 0, 0);
        }
        String[] tests = {"if fromm 1 to 1", "if fro 1 to 1", "if From 1 to 1", "if lists 1 to 1",
            "if words 1 to 1", "if wor 1 to 1", "if abov 1 to 1", "if abovee 1 to 1",
            "if belo 1 to 1", "if size 1 to 1", "if b 1 to 1", "if all to 1", "if if from 1 to 1",
            "if and from 1 to 1", "if 1 to 1", "if prom 1 to 1", "if mist 1 to 1",
            "if lord 1 to 1", "if ibove 1 to 1", "if relow 1 to 1"};
        for (String text : tests) {
            fault(text, 3, 0);
        }
        fault("all too 1", 4, 0);
        fault("all t 1", 4, 0);
        fault("all To 1", 4, 0);
        fault("all so 1", 4, 0);
        fault("if from 1 end list 1 to 1", 10, 0);
        fault("if from 1 an list 1 to 1", 10, 0);
        fault("if from 1 ands list 1 to 1", 10, 0);
        fault("if from 1 too 1", 10, 0);
    }

    private static boolean isSmall(int b) {
        return b >= 'a' && b <= 'z';
    }

    private static boolean isDigit(int b) {
        return b >= '0' && b <= '9';
    }

    /** Each of the 256 bytes at five places of a text. */
    private static void everyByte() {
        says("0 a byte or WORD that can't stand there");
        for (int b = 0; b < 256; b++) {
            char odd = (char) b;
            if (b != ' ') {
                fault(odd + "all to 1", 0, 0);
                fault("all" + odd + "to 1", isSmall(b) ? 0 : 3, 0);
                fault("if from" + odd + "x", isSmall(b) ? 3 : isDigit(b) ? 8 : 7, 0);
            }
            if (isDigit(b) && b < '8') {
                Checks.taken("all to " + odd, b - '0');
            } else {
                fault("all to " + odd, b == ' ' ? 8 : 7, isDigit(b) ? 1 : 0);
            }
            String middle = "if from 1" + odd + "and list 2 to 3";
            if (isDigit(b) && b < '6') {
                Checks.taken(middle, 3, 10 + b - '0', 18);
            } else if (b == ' ') {
                Checks.taken(middle, 3, 1, 18);
            } else {
                fault(middle, isDigit(b) ? 8 : 9, isDigit(b) ? 1 : 0);
            }
        }
    }

    private static void digits() {
        says("NUMBERS are 1 to 3 digits (as far as digits go on)");
        Checks.taken("if from 7 to 5", 5, 7);
        Checks.taken("if from 07 to 05", 5, 7);
        Checks.taken("if from 007 to 005", 5, 7);
        Checks.taken("if above 000 to 000", 0, 100);
        fault("if from 0007 to 5", 8, 1);
        fault("if from 7 to 0005", 13, 1);
        fault("if above 0000 to 5", 9, 1);
        fault("if from x to 5", 8, 0);
        fault("if from -1 to 5", 8, 0);
        fault("if from +1 to 5", 8, 0);
        fault("all to -0", 7, 0);
        fault("if from 1 1 to 5", 10, 0);
        says("1 a NUMBER not as told (of more digits, too)");
        String[] great = {"2147483648", "4294967296", "4294967297", "4294967301",
            "18446744073709551616", "18446744073709551617", "0000000000000000000000001",
            "340282366920938463463374607431768211457"};
        for (String number : great) {
            fault("all to " + number, 7, 1);
            fault("if from " + number + " to 1", 8, 1);
            fault("if below " + number + " to 1", 9, 1);
        }
        StringBuilder ones = new StringBuilder("all to ");
        while (ones.length() < 100) {
            ones.append(ones.length() % 2);
        }
        fault(ones.toString(), 7, 1);
    }

    private static void bounds() {
        says("from 0 to 15, list 0 to 7, word 0 to 15, above, below 0 to 999, to 0 to 7");
        String[] kinds = {"from", "list", "word", "above", "below"};
        int[] bases = {0, 16, 24, 100, 1100};
        int[] greatest = {15, 7, 15, 999, 999};
        for (int kind = 0; kind < 5; kind++) {
            for (int n = 0; n <= 1000; n++) {
                String text = "if " + kinds[kind] + " " + n + " to 2";
                if (n <= greatest[kind]) {
                    Checks.taken(text, 2, bases[kind] + n);
                } else {
                    fault(text, 4 + kinds[kind].length(), 1);
                }
            }
        }
        for (int n = 0; n <= 1000; n++) {
            if (n <= 7) {
                Checks.taken("all to " + n, n);
            } else {
                fault("all to " + n, 7, 1);
            }
        }
    }

    private static void grammar() {
        says("(all | if TEST { and TEST }) to n");
        Checks.taken("all to 4", 4);
        Checks.taken("if below 3 to 4", 4, 1103);
        Checks.taken("if below 3 and above 3 to 4", 4, 1103, 103);
        Checks.taken("if word 3 and word 3 and list 0 to 4", 4, 27, 27, 16);
        Checks.taken("if from 4 and from 3 and from 2 and from 1 to 4", 4, 4, 3, 2, 1);
        fault("all all to 4", 4, 0);
        fault("all from 1 to 4", 4, 0);
        fault("all and from 1 to 4", 4, 0);
        fault("all if from 1 to 4", 4, 0);
        fault("if from 1 list 2 to 4", 10, 0);
        fault("if from 1 if list 2 to 4", 10, 0);
        fault("if from 1 and and list 2 to 4", 14, 0);
        fault("if from 1 and if list 2 to 4", 14, 0);
        fault("if from 1 and 2 to 4", 14, 0);
        fault("if from from 1 to 4", 8, 0);
        fault("if from 1 to to 4", 13, 0);
        fault("if from 1 4", 10, 0);
        fault("all 4", 4, 0);
    }

    /** Each beginning of a good text, with the place of its fault. */
    private static void theEnd() {
        says("or the end (behind the last byte)");
        String text = "if from 1 and list 2 to 3";
        int[] places = {0, 0, 2, 3, 3, 3, 3, 7, 8, 9, 10, 10, 10, 13, 14, 14, 14, 14, 18, 19, 20, 21,
            21, 23, 24};
        for (int length = 0; length < text.length(); length++) {
            fault(text.substring(0, length), places[length], 0);
        }
        Checks.taken(text, 3, 1, 18);
        fault("all", 3, 0);
        fault("all to", 6, 0);
        fault("all to     ", 11, 0);
        fault("     ", 5, 0);
    }

    private static void firstAlongTheText() {
        says("FAULTS, the first along the text");
        fault("al to 8 x", 0, 0);
        fault("if from 16 or list 8 to 9 x", 8, 1);
        fault("if from 1 or list 8 to 9 x", 10, 0);
        fault("if from 1 and list 8 to 9 x", 19, 1);
        fault("if from 1 and list 7 to 9 x", 24, 1);
        fault("if from 1 and list 7 to 7 x", 26, 3);
        fault("if from 1 and list 7 to ; x", 24, 0);
        fault("if word 1 and word 2 and word 3 and word 16 and word 5 to 9", 41, 1);
        fault("if word 1 and word 2 and word 3 and words 4 and word 5 to 9", 36, 0);
    }

    private static void fifthTest() {
        says("A RULE: up to 4 TESTS");
        Checks.taken(FOUR_TESTS + " to 1", 1, 25, 26, 27, 28);
        says("2 the fifth TEST (at its WORD)");
        int place = AHEAD_OF_FIFTH.length();
        String[] fifth = {"from 1 to 1", "list 1 to 1", "word 1 to 1", "above 1 to 1",
            "below 1 to 1", "word", "word ", "word x", "word 16 to 1", "word 0000", "word 5 to 9",
            "word 5 and word 6 to 1", "word;"};
        for (String text : fifth) {
            fault(AHEAD_OF_FIFTH + text, place, 2);
        }
        fault(FOUR_TESTS + " and     word 5 to 1", place + 4, 2);
        fault("if above 100 and above 200 and above 300 and above 400 and above 500 to 1", 59, 2);
        says("(Of one place the least number.)");
        String[] none = {"", "to 1", "and word 5", "words 5", "wor", "all", "5", ";", "\u0000", "W"};
        for (String text : none) {
            fault(AHEAD_OF_FIFTH + text, place, 0);
        }
        fault(FOUR_TESTS + " an", FOUR_TESTS.length() + 1, 0);
        fault(FOUR_TESTS + " and", FOUR_TESTS.length() + 4, 0);
    }

    private static void behindTheRule() {
        says("3 something behind the RULE");
        String[] more = {"x", "to 2", "to", "and", "and from 1 to 2", "all to 2", "if", "2", "12",
            ";", "\u0000", "\u00ff", "."};
        for (String text : more) {
            fault("all to 1 " + text, 9, 3);
            fault("if from 1 to 1    " + text, 18, 3);
        }
        for (int b = 0; b < 256; b++) {
            if (b != ' ' && !isDigit(b)) {
                fault("all to 1" + (char) b, 8, 3);
            }
        }
        fault("if from 1 to 2;", 14, 3);
        fault("all to 1and", 8, 3);
    }

    private static void hundredBytes() {
        says("the text (100 bytes at most)");
        Checks.taken(padded("all to", 99) + "7", 7);
        Checks.taken(padded("all", 97) + "to7", 7);
        Checks.taken(padded("if below 999 and above 998 and below 997 and above 996", 97) + "to0", 0,
                2099, 1098, 2097, 1096);
        Checks.taken(padded("all to 4", 100), 4);
        fault(padded("all to", 99) + "8", 99, 1);
        fault(padded("all to", 99) + "x", 99, 0);
        fault(padded("all to 4", 99) + "x", 99, 3);
        fault(padded(AHEAD_OF_FIFTH, 96) + "word", 96, 2);
        fault(padded("all to", 100), 100, 0);
        fault(padded("if", 100), 100, 0);
        fault(padded("", 98) + "if", 100, 0);
        fault(padded("", 100), 100, 0);
    }
}
