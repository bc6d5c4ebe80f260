/** The sentences on HEAPS, on LETTERS PLAYED AGAIN and on both that name an edge, each by itself. */
public final class EdgesOfHeapsTest {
    private static final int NONE = LetterSieve.NONE;
    private static final int LEAST = Integer.MIN_VALUE;
    private static final int GREATEST = Integer.MAX_VALUE;

    private EdgesOfHeapsTest() {
    }

    public static void main(String[] args) {
        leastOfBoth();
        noSuchRules();
        asManyAsTold();
        otherHeaps();
        leastOfSeveral();
        ofTheHeap();
        heapedCodes();
        noCode();
        playedAgain();
        byTheRowAsItIs();
        kth();
        hundredDiffer();
        Checks.finish("EdgesOfHeapsTest");
    }

    private static void due(String what, int got, int want) {
        Checks.due(what, got, want);
    }

    private static void says(String quoted) {
        Checks.says(quoted);
    }

    private static void leastOfBoth() {
        says("The least LETTER that two RULES of the ROW FIT both; NONE.");
        LetterSieve x = new LetterSieve();
        Checks.tell(x, "if from 3 to 1");
        Checks.tell(x, "if list 2 to 2");
        Checks.tell(x, "if above 99 to 3");
        Checks.tell(x, "all to 4");
        due("without LETTERS", x.both(0, 1), NONE);
        due("without LETTERS", x.both(3, 3), NONE);
        x.letter(2, 2, 99, 0);
        x.letter(3, 1, 99, 0);
        due("one fits the one, one the other", x.both(0, 1), NONE);
        x.letter(3, 2, 99, 0);
        x.letter(3, 2, 100, 0);
        due("the least", x.both(0, 1), 2);
        due("the other way", x.both(1, 0), 2);
        due("the last", x.both(0, 2), 3);
        due("each", x.both(3, 0), 1);
        due("LETTER 0", x.both(1, 3), 0);
        due("a RULE and itself", x.both(2, 2), 3);
        x.move(2, 7);
        due("wherever it lies", x.both(0, 1), 2);
        x.drop(0);
        due("by places, not by numbers", x.both(0, 1), 3);
    }

    private static void noSuchRules() {
        says("The least LETTER that two RULES of the ROW FIT both; NONE.");
        LetterSieve x = new LetterSieve();
        for (int i = 0; i < 4; i++) {
            x.move(Checks.plain(x, 3), 5);
        }
        x.learn();
        Checks.tell(x, "all to 1");
        due("a HAND RULE and a LEARNT one", x.both(0, 1), 0);
        int[] odd = {LEAST, LEAST + 1, -10, -2, -1, 2, 3, 10, 16, 100, 256, 65536, GREATEST};
        for (int k : odd) {
            for (int l = 0; l < 2; l++) {
                due("both(" + k + ", " + l + ")", x.both(k, l), NONE);
                due("both(" + l + ", " + k + ")", x.both(l, k), NONE);
            }
            due("both(" + k + ", " + k + ")", x.both(k, k), NONE);
        }
    }

    private static void asManyAsTold() {
        says("if these are as many as told or more");
        LetterSieve x = new LetterSieve();
        for (int many = 1; many <= 100; many++) {
            Checks.plain(x, 15);
            due("as many: heap(" + many + ")", x.heap(many), 15);
            due("one more: heap(" + (many + 1) + ")", x.heap(many + 1), NONE);
            due("one: heap(1)", x.heap(1), 15);
        }
    }

    private static void otherHeaps() {
        says("A HEAP of n LETTERS (1 to 100) or more: the CODE; NONE: none, or another n.");
        LetterSieve x = new LetterSieve();
        due("without LETTERS", x.heap(1), NONE);
        Checks.plain(x, 0);
        int[] odd = {LEAST, -100, -1, 0, 101, 102, 256, 65536, GREATEST};
        for (int n : odd) {
            due("heap(" + n + ")", x.heap(n), NONE);
        }
        due("heap(1)", x.heap(1), 0);
        due("heap(2)", x.heap(2), NONE);
        due("heap(100)", x.heap(100), NONE);
    }

    private static void leastOfSeveral() {
        says("of several the least");
        LetterSieve x = new LetterSieve();
        x.letter(9, 5, 0, 0x8100);
        due("from", x.heap(1), 9);
        x.letter(8, 5, 0, 0x8100);
        due("list", x.heap(1), 21);
        x.letter(7, 4, 0, 0x8100);
        due("word", x.heap(1), 32);
        x.letter(6, 4, 0, 0x8000);
        due("most, not the least", x.heap(1), 39);
        x.letter(7, 3, 0, 0);
        x.letter(7, 3, 0, 0);
        x.letter(7, 3, 0, 0);
        due("as many of a lesser CODE", x.heap(1), 7);
        x.letter(0, NONE, 0, 0x8000);
        due("most again", x.heap(5), 39);
    }

    private static void ofTheHeap() {
        says("of LETTERS SORTED by none that BELONG nowhere");
        LetterSieve x = new LetterSieve();
        Checks.plain(x, 4);
        Checks.plain(x, 4);
        Checks.plain(x, 4);
        x.move(0, 0);
        due("one BELONGS where it lies", x.heaped(4), 2);
        x.move(1, 5);
        due("one BELONGS elsewhere", x.heaped(4), 1);
        due("heap(2)", x.heap(2), NONE);
        due("heap(1)", x.heap(1), 4);
        x.undo();
        due("undone", x.heaped(4), 2);
        due("heap(2)", x.heap(2), 4);
        Checks.tell(x, "if from 4 to 0");
        due("a RULE that comes later", x.heaped(4), 2);
        Checks.plain(x, 4);
        due("SORTED into FOLDER 0 by one", x.heaped(4), 2);
        x.drop(0);
        due("SORTED by one that went", x.heaped(4), 2);
        Checks.plain(x, 4);
        due("SORTED by none", x.heaped(4), 3);
    }

    private static void heapedCodes() {
        says("LETTERS that pass a CODE and would be of the HEAP");
        LetterSieve x = new LetterSieve();
        for (int code = 0; code < 40; code++) {
            due("without LETTERS", x.heaped(code), 0);
        }
        x.letter(0, 0, 0, 1);
        x.letter(15, 7, 999, 0x8000);
        x.letter(15, NONE, 500, 0x8001);
        for (int code = 0; code < 40; code++) {
            int one = code == 0 || code == 16 || code == 23 ? 1 : 0;
            int two = code == 15 || code == 24 || code == 39 ? 2 : 0;
            due("heaped(" + code + ")", x.heaped(code), one + two);
        }
    }

    private static void noCode() {
        says("NONE for no CODE of from, list, word");
        LetterSieve x = new LetterSieve();
        x.letter(0, 0, 500, 65535);
        for (int code = 40; code < 140; code++) {
            due("heaped(" + code + ")", x.heaped(code), NONE);
        }
        int[] odd = {LEAST, LEAST + 39, -64, -40, -39, -2, -1, 599, 600, 1099, 1100, 1600, 1601,
            2099, 2100, 256, 65536, GREATEST};
        for (int code : odd) {
            due("heaped(" + code + ")", x.heaped(code), NONE);
        }
    }

    private static void playedAgain() {
        says("LETTERS that the ROW as it is would put into another FOLDER than that into which they were SORTED");
        LetterSieve x = new LetterSieve();
        Checks.plain(x, 1);
        Checks.plain(x, 2);
        due("as it was", x.again(), 0);
        x.move(0, 5);
        due("MOVES are nothing to it", x.again(), 0);
        Checks.tell(x, "if from 1 to 0");
        due("by a RULE, but into the same FOLDER", x.again(), 0);
        Checks.tell(x, "all to 5");
        due("one goes elsewhere", x.again(), 1);
        due("not the one that lies there", x.differs(0), 1);
        x.drop(0);
        due("both go elsewhere", x.again(), 2);
        due("the one that was moved there, too", x.differs(0), 0);
        due("nothing was moved", x.about(1, 0), 0);
        due("nor SORTED", x.about(1, 1), NONE);
    }

    private static void byTheRowAsItIs() {
        says("the ROW as it is");
        LetterSieve x = new LetterSieve();
        Checks.tell(x, "if from 9 to 7");
        Checks.plain(x, 9);
        for (int i = 0; i < 4; i++) {
            x.move(Checks.plain(x, 3), 5);
        }
        due("as it was", x.again(), 0);
        x.drop(0);
        due("its RULE went: FOLDER 0", x.again(), 1);
        due("which", x.differs(0), 0);
        Checks.tell(x, "if from 9 to 7");
        due("another RULE, the same FOLDER", x.again(), 0);
        x.learn();
        due("LEARNT ones are of the ROW", x.again(), 4);
        due("which", x.differs(0), 1);
        due("which", x.differs(3), 4);
        x.fade(1);
        due("faded", x.again(), 0);
        due("none", x.differs(0), NONE);
    }

    private static void kth() {
        says("The k-th of these; NONE.");
        LetterSieve x = new LetterSieve();
        for (int i = 0; i < 12; i++) {
            Checks.plain(x, i % 3);
        }
        due("none", x.differs(0), NONE);
        Checks.tell(x, "if from 2 to 1");
        for (int k = 0; k < 4; k++) {
            due("differs(" + k + ")", x.differs(k), 3 * k + 2);
        }
        int[] odd = {LEAST, -4, -2, -1, 4, 5, 11, 12, 100, 256, 65536, GREATEST};
        for (int k : odd) {
            due("differs(" + k + ")", x.differs(k), NONE);
        }
    }

    private static void hundredDiffer() {
        says("PLAYED AGAIN: how many.");
        LetterSieve x = new LetterSieve();
        for (int i = 0; i < 100; i++) {
            Checks.plain(x, i % 16);
        }
        Checks.tell(x, "all to 7");
        due("all", x.again(), 100);
        for (int k = 0; k < 100; k++) {
            due("differs(" + k + ")", x.differs(k), k);
        }
        due("no more", x.differs(100), NONE);
    }
}
