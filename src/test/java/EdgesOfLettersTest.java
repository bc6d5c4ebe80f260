/** The sentences on LETTERS, TESTS, the ROW and MOVES that name an edge, each by itself. */
public final class EdgesOfLettersTest {
    private static final int NONE = LetterSieve.NONE;
    private static final int LEAST = Integer.MIN_VALUE;
    private static final int GREATEST = Integer.MAX_VALUE;

    private EdgesOfLettersTest() {
    }

    public static void main(String[] args) {
        newObject();
        bounds();
        hundredLetters();
        fromListWord();
        aboveBelow();
        allTests();
        noRuleFits();
        firstOfTheRow();
        rowByNumbers();
        thereItLies();
        noRuleToDrop();
        staysSorted();
        anotherRule();
        folders();
        noSuchLetter();
        lastMoveHolds();
        moveToWhereItLies();
        twoHundredMoves();
        undone();
        undoAll();
        learntStays();
        about();
        count();
        Checks.finish("EdgesOfLettersTest");
    }

    private static void due(String what, int got, int want) {
        Checks.due(what, got, want);
    }

    private static void due(String what, boolean got, boolean want) {
        Checks.due(what, got, want);
    }

    private static void says(String quoted) {
        Checks.says(quoted);
    }

    private static void newObject() {
        says("No RULES, no LETTERS.");
        LetterSieve x = new LetterSieve();
        int[] counts = {0, 1, 2, 3, 4, 5, 20, 21, 22, 23, 24, 25, 26, 27};
        for (int what : counts) {
            due("count(" + what + ")", x.count(what), 0);
        }
        due("rule", x.rule(0, 2), NONE);
        due("record", x.record(0, 0), NONE);
        due("about", x.about(0, 0), NONE);
        due("drop", x.drop(0), false);
        due("move", x.move(0, 0), false);
        due("undo", x.undo(), NONE);
        due("fade", x.fade(1), 0);
        due("heap", x.heap(1), NONE);
        due("heaped", x.heaped(0), 0);
        due("again", x.again(), 0);
        due("differs", x.differs(0), NONE);
        due("both", x.both(0, 0), NONE);
        due("learnt", x.learnt(0), NONE);
        due("the first letter", x.letter(0, 0, 0, 0), 0);
        LetterSieve y = new LetterSieve();
        due("objects have nothing in common", y.count(0), 0);
    }

    private static void bounds() {
        says("from whom (0 to 15), a LIST (0 to 7, or NONE), a SIZE (0 to 999), WORDS (0 to 15, any of them)");
        LetterSieve x = new LetterSieve();
        int there = 0;
        int[] odd = {LEAST, LEAST + 1, -65536, -1000, -17, -3, -2, -1, 0, 1, 7, 8, 15, 16, 17, 999,
            1000, 1001, 65535, 65536, 65537, 1 << 24, 1 << 31, GREATEST};
        for (int n : odd) {
            boolean from = n >= 0 && n <= 15;
            boolean list = n >= -1 && n <= 7;
            boolean size = n >= 0 && n <= 999;
            boolean words = n >= 0 && n <= 65535;
            due("letter from " + n, x.letter(n, 0, 0, 0), from ? there++ : NONE);
            due("letter of list " + n, x.letter(0, n, 0, 0), list ? there++ : NONE);
            due("letter of size " + n, x.letter(0, 0, n, 0), size ? there++ : NONE);
            due("letter of words " + n, x.letter(0, 0, 0, n), words ? there++ : NONE);
            due("LETTERS", x.count(0), there);
        }
        due("nothing as told", x.letter(-1, -2, -1, -1), NONE);
        due("the last but one alone", x.letter(15, 7, 1000, 65535), NONE);
        due("all the greatest", x.letter(15, 7, 999, 65535), there);
        due("all the least", x.letter(0, NONE, 0, 0), there + 1);
    }

    private static void hundredLetters() {
        says("LETTERS 0 to 99");
        LetterSieve x = new LetterSieve();
        for (int i = 0; i < 100; i++) {
            due("its number", Checks.plain(x, i % 16), i);
        }
        says("its number; NONE: there are 100");
        due("one more", Checks.plain(x, 0), NONE);
        due("one more", x.letter(15, 7, 999, 65535), NONE);
        due("LETTERS", x.count(0), 100);
        due("the last", x.about(99, 0), 0);
        due("no more", x.about(100, 0), NONE);
        due("the last is moved", x.move(99, 7), true);
        due("no more", x.move(100, 7), false);
    }

    private static int sortedBy(String text, int from, int list, int size, int words) {
        LetterSieve x = new LetterSieve();
        Checks.tell(x, text);
        x.letter(from, list, size, words);
        return x.about(0, 0);
    }

    private static void fromListWord() {
        says("a LETTER is from n, of LIST n, has WORD n");
        for (int n = 0; n < 16; n++) {
            for (int m = 0; m < 16; m++) {
                due("from " + n + " of " + m, sortedBy("if from " + n + " to 5", m, 0, 0, 0),
                        n == m ? 5 : 0);
                due("word " + n + " of word " + m,
                        sortedBy("if word " + n + " to 5", 0, 0, 0, 1 << m), n == m ? 5 : 0);
                due("word " + n + " of all but " + m,
                        sortedBy("if word " + n + " to 5", 0, 0, 0, 65535 - (1 << m)),
                        n == m ? 0 : 5);
            }
        }
        for (int n = 0; n < 8; n++) {
            for (int m = NONE; m < 8; m++) {
                due("list " + n + " of " + m, sortedBy("if list " + n + " to 5", 15, m, 0, 65535),
                        n == m ? 5 : 0);
            }
        }
        due("word 0 is bit 0", sortedBy("if word 0 to 5", 0, 0, 0, 1), 5);
        due("word 15 is bit 15", sortedBy("if word 15 to 5", 0, 0, 0, 32768), 5);
    }

    private static void aboveBelow() {
        says("above n, below n (its SIZE is above, below n)");
        int[] edges = {0, 1, 2, 499, 500, 501, 997, 998, 999};
        for (int n : edges) {
            for (int size : edges) {
                due("above " + n + " of " + size, sortedBy("if above " + n + " to 5", 0, 0, size, 0),
                        size > n ? 5 : 0);
                due("below " + n + " of " + size, sortedBy("if below " + n + " to 5", 0, 0, size, 0),
                        size < n ? 5 : 0);
            }
        }
        due("between", sortedBy("if above 4 and below 6 to 5", 0, 0, 5, 0), 5);
        due("nothing between", sortedBy("if above 4 and below 5 to 5", 0, 0, 5, 0), 0);
    }

    private static void allTests() {
        says("it FITS a LETTER that passes all of its TESTS (without any: each LETTER)");
        String text = "if from 3 and list 2 and word 1 and above 9 to 6";
        due("all four", sortedBy(text, 3, 2, 10, 2), 6);
        due("not the first", sortedBy(text, 4, 2, 10, 2), 0);
        due("not the second", sortedBy(text, 3, NONE, 10, 2), 0);
        due("not the third", sortedBy(text, 3, 2, 10, 65533), 0);
        due("not the fourth", sortedBy(text, 3, 2, 9, 2), 0);
        due("twice the same", sortedBy("if from 3 and from 3 to 6", 3, 0, 0, 0), 6);
        due("never both", sortedBy("if from 3 and from 4 to 6", 3, 0, 0, 0), 0);
        due("without any", sortedBy("all to 6", 0, NONE, 0, 0), 6);
        due("without any", sortedBy("all to 6", 15, 7, 999, 65535), 6);
    }

    private static void noRuleFits() {
        says("into the FOLDER of the first RULE of the ROW that FITS (SORTED by it; by none: FOLDER 0)");
        LetterSieve x = new LetterSieve();
        Checks.tell(x, "if from 1 to 0");
        Checks.plain(x, 1);
        Checks.plain(x, 2);
        int[][] want = {{0, 0, 0, NONE, 0}, {0, NONE, 0, NONE, NONE}};
        for (int letter = 0; letter < 2; letter++) {
            for (int what = 0; what < 5; what++) {
                due("about(" + letter + ", " + what + ")", x.about(letter, what),
                        want[letter][what]);
            }
        }
        due("lying in folder 0", x.count(20), 2);
    }

    private static void firstOfTheRow() {
        says("the first RULE of the ROW that FITS");
        LetterSieve x = new LetterSieve();
        for (int i = 0; i < 4; i++) {
            Checks.plain(x, 3);
            x.move(i, 7);
        }
        due("learnt", x.learn(), 1);
        Checks.plain(x, 3);
        due("by the learnt one", x.about(4, 1), 100);
        Checks.tell(x, "if above 99 to 1");
        Checks.tell(x, "if from 3 to 2");
        Checks.tell(x, "all to 3");
        Checks.plain(x, 3);
        due("the hand's go ahead, one that fits", x.about(5, 1), 1);
        due("its place", x.about(5, 4), 1);
        due("its folder", x.about(5, 2), 2);
        x.drop(0);
        Checks.tell(x, "if from 3 to 6");
        Checks.plain(x, 3);
        due("the last told has the least number", x.about(6, 1), 0);
        due("its folder", x.about(6, 2), 6);
    }

    private static void rowByNumbers() {
        says("HAND RULES that are there, by numbers, then LEARNT ones in their order");
        LetterSieve x = new LetterSieve();
        x.cost(0, 0);
        for (int i = 0; i < 14; i++) {
            Checks.plain(x, i % 7);
            x.move(i, 1 + i % 7);
        }
        due("six learnt", x.learn(), 6);
        for (int i = 0; i < 10; i++) {
            Checks.tell(x, "if above 99" + i + " to " + i % 8);
        }
        for (int k = 0; k < 16; k++) {
            due("the full row's " + k, x.rule(k, 0), k < 10 ? k : 90 + k);
        }
        due("no more", x.rule(16, 0), NONE);
        due("no more", x.record(16, 0), NONE);
        for (int number = 0; number < 10; number += 2) {
            x.drop(number);
        }
        for (int k = 0; k < 11; k++) {
            due("the row's " + k, x.rule(k, 0), k < 5 ? 2 * k + 1 : 95 + k);
        }
        due("no more", x.rule(11, 0), NONE);
    }

    private static void thereItLies() {
        says("A LETTER is SORTED as it comes");
        LetterSieve x = new LetterSieve();
        Checks.plain(x, 1);
        Checks.tell(x, "all to 4");
        Checks.plain(x, 1);
        Checks.tell(x, "if from 1 to 5");
        x.drop(0);
        x.learn();
        x.fade(1);
        x.again();
        int[][] want = {{0, NONE, 0, NONE, 0}, {4, 0, 4, NONE, 0}};
        for (int letter = 0; letter < 2; letter++) {
            for (int what = 0; what < 5; what++) {
                due("about(" + letter + ", " + what + ")", x.about(letter, what),
                        want[letter][what]);
            }
        }
    }

    private static void noRuleToDrop() {
        says("A HAND RULE goes: true; false without it.");
        LetterSieve x = new LetterSieve();
        for (int i = 0; i < 10; i++) {
            due("ahead of it", x.drop(i), false);
            Checks.tell(x, "all to 1");
        }
        int[] odd = {LEAST, -100, -10, -2, -1, 10, 11, 15, 16, 100, 101, 256, 65536, GREATEST};
        for (int rule : odd) {
            due("drop(" + rule + ")", x.drop(rule), false);
        }
        due("all are there", x.count(1), 10);
        for (int i = 9; i >= 0; i--) {
            due("it goes", x.drop(i), true);
            due("once", x.drop(i), false);
            due("HAND RULES", x.count(1), i);
        }
        LetterSieve y = new LetterSieve();
        for (int i = 0; i < 4; i++) {
            Checks.plain(y, 3);
            y.move(i, 5);
        }
        y.learn();
        due("a learnt one by its place", y.drop(0), false);
        due("a learnt one by its name", y.drop(100), false);
        due("it is there", y.count(2), 1);
    }

    private static void staysSorted() {
        says("What it SORTED stays SORTED by it");
        LetterSieve x = new LetterSieve();
        Checks.tell(x, "all to 0");
        Checks.tell(x, "all to 2");
        Checks.plain(x, 1);
        x.drop(0);
        x.drop(1);
        due("its name", x.about(0, 1), 0);
        due("its folder", x.about(0, 2), 0);
        due("not of a heap", x.heap(1), NONE);
        due("not of a heap", x.heaped(1), 0);
    }

    private static void anotherRule() {
        says("another one that gets its number is another RULE, with a RECORD of its own");
        LetterSieve x = new LetterSieve();
        Checks.tell(x, "all to 3");
        Checks.plain(x, 1);
        Checks.plain(x, 1);
        x.move(0, 3);
        x.move(1, 4);
        x.drop(0);
        due("the same text", Checks.tell(x, "all to 3"), 0);
        int[] fresh = {0, 0, 0, NONE};
        int[] later = {1, 0, 0, 2};
        for (int what = 0; what < 4; what++) {
            due("record(0, " + what + ")", x.record(0, what), fresh[what]);
        }
        Checks.plain(x, 1);
        for (int what = 0; what < 4; what++) {
            due("record(0, " + what + ")", x.record(0, what), later[what]);
        }
        for (int letter = 0; letter < 3; letter++) {
            due("the name of " + letter, x.about(letter, 1), 0);
        }
        x.move(0, 1);
        due("a move of the old one's letter", x.record(0, 2), 0);
    }

    private static void folders() {
        says("FOLDERS 0 to 7");
        LetterSieve x = new LetterSieve();
        Checks.plain(x, 0);
        int[] odd = {LEAST, -8, -2, -1, 8, 9, 15, 20, 27, 256, 1 << 16, GREATEST};
        for (int folder : odd) {
            due("move to " + folder, x.move(0, folder), false);
        }
        due("it belongs nowhere", x.about(0, 3), NONE);
        due("no move", x.count(3), 0);
        for (int folder = 0; folder < 8; folder++) {
            due("move to " + folder, x.move(0, folder), true);
            due("it lies there", x.about(0, 0), folder);
            due("it belongs there", x.about(0, 3), folder);
            due("it alone", x.count(20 + folder), 1);
        }
    }

    private static void noSuchLetter() {
        says("A MOVE: true; false, and nothing happens: none such, or 200 MOVES.");
        LetterSieve x = new LetterSieve();
        due("no letter", x.move(0, 0), false);
        Checks.plain(x, 0);
        Checks.plain(x, 0);
        int[] odd = {LEAST, -100, -1, 2, 3, 99, 100, 256, 65536, GREATEST};
        for (int letter : odd) {
            due("move of " + letter, x.move(letter, 1), false);
        }
        due("no move", x.count(3), 0);
        due("all lie where they lay", x.count(20), 2);
        due("the last of them", x.move(1, 1), true);
    }

    private static void lastMoveHolds() {
        says("it lies there then; the last one holds");
        LetterSieve x = new LetterSieve();
        Checks.tell(x, "all to 2");
        Checks.plain(x, 0);
        x.move(0, 5);
        x.move(0, 6);
        due("lies", x.about(0, 0), 6);
        due("belongs", x.about(0, 3), 6);
        due("was sorted into", x.about(0, 2), 2);
        due("wrong", x.record(0, 2), 1);
        x.move(0, 2);
        due("wrong", x.record(0, 2), 0);
        due("right", x.record(0, 1), 1);
        due("each is a move", x.count(3), 3);
    }

    private static void moveToWhereItLies() {
        says("one to where it lies says that it is right");
        LetterSieve x = new LetterSieve();
        Checks.tell(x, "if from 1 to 2");
        Checks.plain(x, 1);
        Checks.plain(x, 0);
        due("neither", x.record(0, 1), 0);
        due("move", x.move(0, 2), true);
        due("right", x.record(0, 1), 1);
        due("move", x.move(1, 0), true);
        due("belongs", x.about(1, 3), 0);
        due("not of a heap", x.heaped(0), 0);
        due("moves", x.count(3), 2);
    }

    private static void twoHundredMoves() {
        says("200 MOVES at most.");
        LetterSieve x = new LetterSieve();
        Checks.plain(x, 0);
        Checks.plain(x, 0);
        for (int i = 0; i < 200; i++) {
            due("move " + i, x.move(0, i % 7), true);
        }
        for (int folder = 0; folder < 8; folder++) {
            due("one more", x.move(0, folder), false);
        }
        due("of another letter", x.move(1, 1), false);
        due("lies", x.about(0, 0), 199 % 7);
        due("belongs", x.about(0, 3), 199 % 7);
        due("the other one belongs nowhere", x.about(1, 3), NONE);
        due("moves", x.count(3), 200);
        due("undone", x.undo(), 0);
        due("moves", x.count(3), 199);
        due("as ahead of it", x.about(0, 3), 198 % 7);
        due("one again", x.move(1, 1), true);
        due("and no more", x.move(1, 1), false);
    }

    private static void undone() {
        says("MOVES may be UNDONE, the last one first (it lies and BELONGS as ahead of it");
        LetterSieve x = new LetterSieve();
        Checks.tell(x, "all to 3");
        Checks.plain(x, 0);
        Checks.plain(x, 1);
        x.move(1, 3);
        x.move(0, 6);
        x.move(1, 4);
        int[][] want = {{1, 6, 6, 3, 3}, {0, 3, NONE, 3, 3}, {1, 3, NONE, 3, NONE}};
        for (int i = 0; i < 3; i++) {
            due("undo", x.undo(), want[i][0]);
            due("0 lies", x.about(0, 0), want[i][1]);
            due("0 belongs", x.about(0, 3), want[i][2]);
            due("1 lies", x.about(1, 0), want[i][3]);
            due("1 belongs", x.about(1, 3), want[i][4]);
            due("moves left", x.count(3), 2 - i);
        }
        says("The last MOVE is UNDONE: its LETTER; NONE without one.");
        due("none left", x.undo(), NONE);
        due("none left", x.undo(), NONE);
        due("moves left", x.count(3), 0);
        due("letters", x.count(23), 2);
        due("one anew", x.move(1, 0), true);
        due("its letter", x.undo(), 1);
    }

    private static void undoAll() {
        says("The last MOVE is UNDONE: its LETTER; NONE without one.");
        LetterSieve x = new LetterSieve();
        Checks.plain(x, 0);
        Checks.plain(x, 1);
        Checks.plain(x, 2);
        for (int i = 0; i < 200; i++) {
            x.move(i % 3, 1 + i % 7);
        }
        for (int i = 199; i >= 0; i--) {
            due("undo", x.undo(), i % 3);
        }
        due("none left", x.undo(), NONE);
        for (int letter = 0; letter < 3; letter++) {
            due("lies", x.about(letter, 0), 0);
            due("belongs", x.about(letter, 3), NONE);
        }
    }

    private static void learntStays() {
        says("what was LEARNT stays");
        LetterSieve x = new LetterSieve();
        for (int i = 0; i < 4; i++) {
            Checks.plain(x, 3);
            x.move(i, 5);
        }
        x.learn();
        for (int i = 0; i < 4; i++) {
            x.undo();
        }
        due("learnt rules", x.count(2), 1);
        Checks.dueRule("the rule", x, 0, 5, 3);
        int[] latest = {4, 8, 4, 1, 0};
        for (int what = 0; what < 5; what++) {
            due("learnt(" + what + ")", x.learnt(what), latest[what]);
        }
        due("a letter goes by it", Checks.plain(x, 3), 4);
        due("into", x.about(4, 2), 5);
        due("learnt anew from nothing", x.learn(), 0);
    }

    private static void about() {
        says("NONE without it, or for another what.");
        LetterSieve x = new LetterSieve();
        Checks.tell(x, "all to 3");
        Checks.plain(x, 0);
        x.move(0, 2);
        int[] odd = {LEAST, -2, -1, 5, 6, 10, 20, 256, 65536, GREATEST};
        int[] noLetter = {LEAST, -1, 1, 2, 99, 100, 256, 65536, GREATEST};
        int[] want = {2, 0, 3, 2, 0};
        for (int what = 0; what < 5; what++) {
            due("about(0, " + what + ")", x.about(0, what), want[what]);
            for (int letter : noLetter) {
                due("about(" + letter + ", " + what + ")", x.about(letter, what), NONE);
            }
        }
        for (int what : odd) {
            due("about(0, " + what + ")", x.about(0, what), NONE);
        }
        says("4: the place in the ROW of the first RULE that FITS now (NONE)");
        x.drop(0);
        due("none fits now", x.about(0, 4), NONE);
        due("its name then", x.about(0, 1), 0);
    }

    private static void count() {
        says("20 to 27: LETTERS that lie in a FOLDER. NONE for others.");
        LetterSieve x = new LetterSieve();
        Checks.plain(x, 0);
        Checks.plain(x, 0);
        Checks.plain(x, 0);
        x.move(0, 7);
        x.move(1, 7);
        x.undo();
        for (int what = -40; what < 140; what++) {
            boolean told = what >= 0 && what <= 5 || what >= 20 && what <= 27;
            int want = what == 0 ? 3 : what == 3 || what == 27 ? 1 : what == 20 ? 2 : 0;
            due("count(" + what + ")", x.count(what), told ? want : NONE);
        }
        int[] odd = {LEAST, LEAST + 20, LEAST + 27, 256, 276, 65536, 65556, GREATEST - 20, GREATEST};
        for (int what : odd) {
            due("count(" + what + ")", x.count(what), NONE);
        }
    }
}
