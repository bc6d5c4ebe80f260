/** Each promise of the document by itself: ordinary inputs, edges, wrong inputs. */
public final class PromisesTest {
    private static final int NONE = LetterSieve.NONE;
    private static final int[] ODD = {Integer.MIN_VALUE, Integer.MIN_VALUE + 9, -2, -1, 28, 1000,
        Integer.MAX_VALUE - 9, Integer.MAX_VALUE};

    private PromisesTest() {
    }

    public static void main(String[] args) {
        newObject();
        feed();
        end();
        handNumbers();
        handFaults();
        handCodes();
        drop();
        letter();
        move();
        undo();
        cost();
        learnOneRule();
        learnTies();
        learnPairs();
        learnLimits();
        learnt();
        learntNames();
        fade();
        rule();
        record();
        both();
        about();
        heap();
        heaped();
        again();
        count();
        Checks.finish("PromisesTest");
    }

    private static void due(String what, int got, int want) {
        Checks.due(what, got, want);
    }

    private static void due(String what, boolean got, boolean want) {
        Checks.due(what, got, want);
    }

    private static void newObject() {
        LetterSieve x = new LetterSieve();
        for (int what = -2; what < 40; what++) {
            boolean told = what >= 0 && what <= 5 || what >= 20 && what <= 27;
            due("1 count(" + what + ")", x.count(what), told ? 0 : NONE);
        }
        due("1 rule", x.rule(0, 0), NONE);
        due("1 record", x.record(0, 0), NONE);
        due("1 about", x.about(0, 0), NONE);
        due("1 learnt", x.learnt(0), NONE);
        due("1 undo", x.undo(), NONE);
        due("1 again", x.again(), 0);
        due("1 differs", x.differs(0), NONE);
        due("1 heap", x.heap(1), NONE);
        due("1 both", x.both(0, 0), NONE);
        due("1 NONE", LetterSieve.NONE, -1);
    }

    private static void feed() {
        LetterSieve x = new LetterSieve();
        due("2 feed", x.feed(0x616c6c20, 0x746f2033, 0x20202020, 0x20202020, 0x20202020), 20);
        due("2 order", x.hand(), 0);
        due("2 folder", x.rule(0, 1), 3);
        for (int i = 1; i <= 5; i++) {
            due("2 feed " + i, x.feed(-1, 0, 1, 2, 3), 20 * i);
        }
        due("2 full", x.feed(0, 0, 0, 0, 0), NONE);
        due("2 length", x.count(4), 100);
        due("2 end", x.end(81), 81);
        due("2 one too many", x.feed(0, 0, 0, 0, 0), NONE);
        due("2 still", x.count(4), 81);
        due("2 end", x.end(80), 80);
        due("2 just so", x.feed(0, 0, 0, 0, 0), 100);
    }

    private static void end() {
        LetterSieve x = new LetterSieve();
        due("3 empty", x.end(0), 0);
        due("3 beyond", x.end(1), NONE);
        x.feed(1, 2, 3, 4, 5);
        due("3 beyond", x.end(21), NONE);
        due("3 below", x.end(-1), NONE);
        due("3 least", x.end(Integer.MIN_VALUE), NONE);
        due("3 greatest", x.end(Integer.MAX_VALUE), NONE);
        due("3 still", x.count(4), 20);
        due("3 all", x.end(20), 20);
        due("3 some", x.end(7), 7);
        due("3 no more", x.end(8), NONE);
        due("3 length", x.count(4), 7);
    }

    private static void handNumbers() {
        LetterSieve x = new LetterSieve();
        for (int i = 0; i < 10; i++) {
            due("4 number", Checks.tell(x, "all to " + i % 8), i);
            due("4 empty then", x.count(4), 0);
        }
        Checks.tape(x, "all to 1");
        due("4 there are 10", x.hand(), NONE);
        due("4 nothing happens", x.count(4), 8);
        x.drop(7);
        x.drop(3);
        due("4 the least", x.hand(), 3);
        due("4 faulty", Checks.tell(x, "al to 1"), -3);
        due("4 empty after a fault", x.count(4), 0);
        due("4 the next", Checks.tell(x, "all to 1"), 7);
        Checks.tape(x, "none");
        due("4 there are 10, faulty", x.hand(), NONE);
        due("4 nothing happens", x.count(4), 4);
    }

    private static void fault(String text, int place, int kind) {
        LetterSieve x = new LetterSieve();
        due("4 '" + text + "'", Checks.tell(x, text), -2 - (1 + 8 * place + kind));
        due("4 none comes", x.count(1), 0);
    }

    private static void handFaults() {
        fault("", 0, 0);
        fault("al to 1", 0, 0);
        fault("alls to 1", 0, 0);
        fault("All to 1", 0, 0);
        fault("7", 0, 0);
        fault("all", 3, 0);
        fault("all  ", 5, 0);
        fault("all to", 6, 0);
        fault("all to ", 7, 0);
        fault("all to x", 7, 0);
        fault("all to 8", 7, 1);
        fault("all to 0001", 7, 1);
        fault("all to 99999999999999999999", 7, 1);
        fault("all to 4294967297", 7, 1);
        fault("all to -1", 7, 0);
        fault("all to 1 x", 9, 3);
        fault("all to 1 2", 9, 3);
        fault("all and from 1 to 2", 4, 0);
        fault("all 3", 4, 0);
        fault("if", 2, 0);
        fault("if to 1", 3, 0);
        fault("if from to", 8, 0);
        fault("if from", 7, 0);
        fault("if from 16 to 1", 8, 1);
        fault("if list 8 to 1", 8, 1);
        fault("if word 16 to 1", 8, 1);
        fault("if above 1000 to 1", 9, 1);
        fault("if below 1000 to 1", 9, 1);
        fault("if below 0000 to 1", 9, 1);
        fault("if from 1", 9, 0);
        fault("if from 1 or list 2 to 3", 10, 0);
        fault("if from 1 and to 3", 14, 0);
        fault("if from 1 to 2;", 14, 3);
        fault("if from 1;to 2", 9, 0);
        fault("if from 99 and nonsense", 8, 1);
        fault("if size 3 to 1", 3, 0);
        String four = "if word 1 and word 2 and word 3 and word 4 and ";
        fault(four + "word 5 to 1", four.length(), 2);
        fault(four + "word", four.length(), 2);
        fault(four + "to 1", four.length(), 0);
        fault(four + "wordy 1", four.length(), 0);
        fault(four, four.length(), 0);
        fault(four + "word 5 and word 6 and nonsense and", four.length(), 2);
        StringBuilder blanks = new StringBuilder("if ");
        while (blanks.length() < 100) {
            blanks.append(' ');
        }
        fault(blanks.toString(), 100, 0);
        fault("all to 1\u0000", 8, 3);
        fault("all\u00a0to 1", 3, 0);
        fault("\u00e1ll to 1", 0, 0);
    }

    private static void handCodes() {
        LetterSieve x = new LetterSieve();
        due("4 four", Checks.tell(x, "if below 999 and above 0 and word 15 and list 7 to 7"), 0);
        due("4 two", Checks.tell(x, "if   from  015   and from 0  to  000"), 1);
        due("4 all", Checks.tell(x, "all to 5"), 2);
        int[][] want = {{0, 7, 4, 2099, 100, 39, 23}, {1, 0, 2, 15, 0, NONE, NONE},
            {2, 5, 0, NONE, NONE, NONE, NONE}};
        for (int k = 0; k < want.length; k++) {
            for (int i = 0; i < 7; i++) {
                int what = i < 3 ? i : i + 7;
                due("4 rule(" + k + ", " + what + ")", x.rule(k, what), want[k][i]);
            }
        }
    }

    private static void drop() {
        LetterSieve x = new LetterSieve();
        due("5 none", x.drop(0), false);
        Checks.tell(x, "all to 1");
        Checks.tell(x, "all to 2");
        x.letter(0, NONE, 0, 0);
        for (int odd : ODD) {
            due("5 odd", x.drop(odd), false);
        }
        due("5 beyond", x.drop(10), false);
        due("5 goes", x.drop(0), true);
        due("5 gone", x.drop(0), false);
        due("5 lies still", x.about(0, 0), 1);
        due("5 sorted still", x.about(0, 1), 0);
        due("5 row", x.rule(0, 0), 1);
        due("5 another", Checks.tell(x, "all to 3"), 0);
        due("5 its own record", x.record(0, 0), 0);
        due("5 its own last", x.record(0, 3), NONE);
        due("5 sorted by the old one", x.about(0, 1), 0);
        due("5 into the old folder", x.about(0, 2), 1);
    }

    private static void letter() {
        LetterSieve x = new LetterSieve();
        due("6 from", x.letter(16, 0, 0, 0), NONE);
        due("6 from", x.letter(-1, 0, 0, 0), NONE);
        due("6 list", x.letter(0, 8, 0, 0), NONE);
        due("6 list", x.letter(0, -2, 0, 0), NONE);
        due("6 size", x.letter(0, 0, 1000, 0), NONE);
        due("6 size", x.letter(0, 0, -1, 0), NONE);
        due("6 words", x.letter(0, 0, 0, 65536), NONE);
        due("6 words", x.letter(0, 0, 0, -1), NONE);
        Checks.tell(x, "if from 15 and list 7 and word 15 to 1");
        Checks.tell(x, "if above 500 and below 502 to 2");
        Checks.tell(x, "if from 3 to 3");
        Checks.tell(x, "if above 998 to 4");
        due("6 number", x.letter(15, 7, 999, 65535), 0);
        due("6 first", x.about(0, 0), 1);
        due("6 number", x.letter(3, NONE, 501, 0), 1);
        due("6 first", x.about(1, 0), 2);
        due("6 number", x.letter(3, NONE, 500, 0), 2);
        due("6 at the edge", x.about(2, 0), 3);
        due("6 number", x.letter(15, NONE, 502, 32768), 3);
        due("6 none", x.about(3, 0), 0);
        due("6 number", x.letter(15, 7, 999, 32767), 4);
        due("6 no word 15", x.about(4, 0), 4);
        for (int i = 5; i < 100; i++) {
            due("6 number", x.letter(i % 16, NONE, i, i), i);
        }
        due("6 there are 100", x.letter(0, 0, 0, 0), NONE);
        due("6 still", x.count(0), 100);
    }

    private static void move() {
        LetterSieve x = new LetterSieve();
        due("7 no letter", x.move(0, 0), false);
        x.letter(0, 0, 0, 0);
        for (int odd : ODD) {
            due("7 odd letter", x.move(odd, 1), false);
            due("7 odd folder", x.move(0, odd), false);
        }
        due("7 folder 8", x.move(0, 8), false);
        due("7 belongs nowhere", x.about(0, 3), NONE);
        due("7 as it lies", x.move(0, 0), true);
        due("7 belongs", x.about(0, 3), 0);
        due("7 moved", x.move(0, 7), true);
        due("7 lies", x.about(0, 0), 7);
        due("7 belongs", x.about(0, 3), 7);
        due("7 sorted into", x.about(0, 2), 0);
        for (int i = 2; i < 200; i++) {
            due("7 moved", x.move(0, i % 8), true);
        }
        due("7 200 moves", x.move(0, 3), false);
        due("7 nothing happens", x.about(0, 3), 7);
        due("7 moves", x.count(3), 200);
        x.undo();
        due("7 one was undone", x.move(0, 5), true);
    }

    private static void undo() {
        LetterSieve x = new LetterSieve();
        due("8 none", x.undo(), NONE);
        Checks.tell(x, "all to 4");
        x.letter(0, 0, 0, 0);
        x.letter(1, 1, 1, 1);
        x.move(0, 1);
        x.move(1, 4);
        x.move(0, 2);
        due("8 last", x.undo(), 0);
        due("8 lies", x.about(0, 0), 1);
        due("8 belongs", x.about(0, 3), 1);
        due("8 second", x.undo(), 1);
        due("8 lies", x.about(1, 0), 4);
        due("8 belongs", x.about(1, 3), NONE);
        due("8 first", x.undo(), 0);
        due("8 lies", x.about(0, 0), 4);
        due("8 belongs", x.about(0, 3), NONE);
        due("8 none more", x.undo(), NONE);
        LetterSieve y = fourFrom(3, 5);
        y.learn();
        y.undo();
        due("8 what was learnt stays", y.count(2), 1);
    }

    private static void cost() {
        LetterSieve x = new LetterSieve();
        due("9 rule", x.cost(0, 100), 3);
        due("9 rule", x.cost(0, 101), NONE);
        due("9 rule", x.cost(0, -1), NONE);
        due("9 rule", x.cost(0, 0), 100);
        due("9 test", x.cost(1, 100), 1);
        due("9 test", x.cost(1, 101), NONE);
        due("9 test", x.cost(1, 0), 100);
        for (int f = 0; f < 8; f++) {
            due("9 folder", x.cost(10 + f, 1000), f == 7 ? 10 : 2);
            due("9 folder", x.cost(10 + f, 1001), NONE);
            due("9 folder", x.cost(10 + f, -1), NONE);
            due("9 folder", x.cost(10 + f, f), 1000);
            due("9 folder", x.cost(10 + f, 2), f);
        }
        for (int odd : ODD) {
            due("9 odd what", x.cost(odd, 1), NONE);
        }
        due("9 other what", x.cost(2, 1), NONE);
        due("9 other what", x.cost(9, 1), NONE);
        due("9 other what", x.cost(18, 1), NONE);
    }

    /** Four letters from one sender, each with a word and a list of its own, that belong together. */
    private static LetterSieve fourFrom(int from, int folder) {
        LetterSieve x = new LetterSieve();
        for (int i = 0; i < 4; i++) {
            x.letter(from, i, i, 1 << i);
            x.move(i, folder);
        }
        return x;
    }

    private static void dueRule(String what, LetterSieve x, int k, int[] want) {
        due(what + " folder", x.rule(k, 1), want[0]);
        due(what + " tests", x.rule(k, 2), want.length - 1);
        for (int i = 1; i < want.length; i++) {
            due(what + " code", x.rule(k, 9 + i), want[i]);
        }
        due(what + " no more codes", x.rule(k, 9 + want.length), NONE);
    }

    private static void learnOneRule() {
        LetterSieve x = fourFrom(3, 5);
        due("10 learn", x.learn(), 1);
        dueRule("10", x, 0, new int[] {5, 3});
        due("10 cost", x.learnt(0), 4);
        due("10 without", x.learnt(1), 8);
        x.cost(0, 7);
        due("10 not lower", x.learn(), 0);
        due("10 cost", x.learnt(0), 8);
        x.cost(0, 6);
        due("10 lower by one", x.learn(), 1);
        due("10 cost", x.learnt(0), 7);
        x.cost(10, 0);
        due("10 wrong ones cost nothing", x.learn(), 0);
        x.cost(10, 2);
        Checks.tell(x, "if from 3 and word 0 to 2");
        due("10 a hand rule fits one", x.learn(), 0);
        due("10 went by", x.learnt(2), 3);
        x.cost(0, 4);
        due("10 by the others", x.learn(), 1);
        dueRule("10 behind the hand's", x, 1, new int[] {5, 3});
        x.drop(0);
        due("10 all again", x.learn(), 1);
        due("10 went by", x.learnt(2), 4);
        x.letter(3, NONE, 0, 0);
        due("10 one that belongs nowhere", x.learn(), 1);
        due("10 went by", x.learnt(2), 4);
    }

    private static void learnTies() {
        LetterSieve x = new LetterSieve();
        for (int i = 0; i < 4; i++) {
            x.letter(9, 2, 0, 6);
            x.move(i, 1);
        }
        x.learn();
        dueRule("10 the least code", x, 0, new int[] {1, 9});
        LetterSieve y = new LetterSieve();
        for (int i = 0; i < 8; i++) {
            y.letter(i, NONE, 0, 1);
            y.move(i, 6 - i % 2);
        }
        y.cost(10, 100);
        y.learn();
        dueRule("10 the least folder", y, 0, new int[] {5, 24});
        LetterSieve z = new LetterSieve();
        for (int i = 0; i < 4; i++) {
            z.letter(i, NONE, 0, 7);
            z.move(2 * i, 2);
            z.letter(i + 4, NONE, 0, 1);
            z.move(2 * i + 1, 0);
        }
        z.learn();
        dueRule("10 fewest tests", z, 0, new int[] {2, 25});
        LetterSieve w = fourFrom(3, 7);
        w.letter(3, NONE, 0, 0);
        w.move(4, 0);
        due("10 a wrong one in folder 7 is dear", w.learn(), 0);
        w.cost(17, 3);
        due("10 and cheaper", w.learn(), 1);
        due("10 cost", w.learnt(0), 7);
    }

    private static void learnPairs() {
        LetterSieve x = new LetterSieve();
        for (int i = 0; i < 4; i++) {
            x.letter(i, NONE, 0, 7);
            x.move(3 * i, 2);
            x.letter(i + 4, NONE, 0, 1);
            x.move(3 * i + 1, 0);
            x.letter(i + 8, NONE, 0, 6);
            x.move(3 * i + 2, 0);
        }
        due("10 learn", x.learn(), 1);
        dueRule("10 a pair, the least second", x, 0, new int[] {2, 24, 25});
        due("10 cost", x.learnt(0), 5);
        LetterSieve y = new LetterSieve();
        for (int i = 0; i < 13; i++) {
            y.letter(i == 0 ? 2 : 1, NONE, 0, i < 7 ? 1 : 2);
            y.move(i, i < 7 ? 3 : 4);
        }
        due("10 learn", y.learn(), 2);
        dueRule("10 first", y, 0, new int[] {3, 24});
        dueRule("10 second goes behind", y, 1, new int[] {4, 1});
        due("10 cost", y.learnt(0), 8);
    }

    private static void learnLimits() {
        LetterSieve x = new LetterSieve();
        for (int i = 0; i < 16; i++) {
            x.letter(i / 2, NONE, 0, 0);
            x.move(i, 1 + i / 2 % 7);
        }
        x.cost(0, 0);
        due("10 six at most", x.learn(), 6);
        for (int k = 0; k < 6; k++) {
            dueRule("10", x, k, new int[] {1 + k, k});
        }
        due("10 no seventh", x.rule(6, 0), NONE);
        due("10 cost", x.learnt(0), 14);
        due("10 without", x.learnt(1), 32);
        x.cost(1, 0);
        LetterSieve y = new LetterSieve();
        due("10 nothing to learn from", y.learn(), 0);
        due("10 cost", y.learnt(0), 0);
        due("10 without", y.learnt(1), 0);
        LetterSieve z = fourFrom(2, 0);
        z.cost(0, 0);
        z.cost(1, 0);
        due("10 right without", z.learn(), 0);
    }

    private static void learnt() {
        LetterSieve x = fourFrom(3, 5);
        for (int what = 0; what < 5; what++) {
            due("11 ahead of any", x.learnt(what), NONE);
        }
        x.learn();
        int[] first = {4, 8, 4, 1, 0};
        for (int what = 0; what < 5; what++) {
            due("11 learnt(" + what + ")", x.learnt(what), first[what]);
        }
        for (int i = 0; i < 4; i++) {
            x.move(i, 6);
        }
        int[] second = {4, 8, 4, 1, 1};
        due("11 of the latest learn()", x.learnt(3), 1);
        x.learn();
        for (int what = 0; what < 5; what++) {
            due("11 learnt(" + what + ")", x.learnt(what), second[what]);
        }
        x.learn();
        due("11 new", x.learnt(3), 0);
        due("11 gone", x.learnt(4), 0);
        x.fade(1);
        due("11 fading changes nothing", x.learnt(4), 0);
        x.learn();
        due("11 new behind fading", x.learnt(3), 1);
        due("11 gone behind fading", x.learnt(4), 0);
        for (int odd : ODD) {
            due("11 odd", x.learnt(odd), NONE);
        }
        due("11 other", x.learnt(5), NONE);
    }

    private static void learntNames() {
        LetterSieve x = fourFrom(3, 5);
        x.learn();
        due("14 name", x.rule(0, 0), 100);
        x.letter(3, NONE, 0, 0);
        due("14 sorted", x.record(0, 0), 1);
        for (int i = 0; i < 4; i++) {
            x.move(i, 6);
        }
        x.learn();
        due("14 another name", x.rule(0, 0), 101);
        due("14 another record", x.record(0, 0), 0);
        for (int i = 0; i < 4; i++) {
            x.move(i, 5);
        }
        x.learn();
        due("14 the same rule", x.rule(0, 0), 100);
        due("14 its record goes on", x.record(0, 0), 1);
        due("14 names", x.count(5), 2);
        x.letter(3, NONE, 0, 0);
        due("14 its record goes on", x.record(0, 0), 2);
        due("14 last", x.record(0, 3), 5);
    }

    private static void fade() {
        LetterSieve x = fourFrom(3, 5);
        for (int i = 4; i < 8; i++) {
            x.letter(4, i, i, 1 << i);
            x.move(i, 6);
        }
        due("12 nothing learnt", x.fade(1), 0);
        due("12 learn", x.learn(), 2);
        due("12 0", x.fade(0), NONE);
        due("12 101", x.fade(101), NONE);
        for (int odd : ODD) {
            if (odd != 28) {
                due("12 odd", x.fade(odd), NONE);
            }
        }
        due("12 nothing happens", x.count(2), 2);
        x.letter(3, NONE, 0, 0);
        x.letter(4, NONE, 0, 0);
        due("12 both of the last two", x.fade(2), 0);
        due("12 one of the last one", x.fade(1), 1);
        due("12 which", x.rule(0, 0), 101);
        x.learn();
        due("12 again", x.count(2), 2);
        due("12 more than there are", x.fade(100), 0);
        x.move(8, 0);
        due("12 more often wrong", x.fade(100), 1);
        due("12 which", x.rule(0, 0), 101);
        x.letter(4, NONE, 0, 0);
        x.move(9, 6);
        x.move(10, 0);
        due("12 as often right as wrong", x.fade(100), 0);
        LetterSieve y = fourFrom(3, 5);
        y.learn();
        due("12 sorted none at all", y.fade(100), 1);
        due("12 names stay", y.count(5), 1);
    }

    private static void rule() {
        LetterSieve x = fourFrom(3, 5);
        x.learn();
        Checks.tell(x, "if word 3 and list 2 to 1");
        Checks.tell(x, "all to 2");
        Checks.tell(x, "if above 7 to 3");
        x.drop(1);
        int[][] want = {{0, 1, 2, 27, 18}, {2, 3, 1, 107, NONE}, {100, 5, 1, 3, NONE}};
        for (int k = 0; k < 3; k++) {
            for (int i = 0; i < 5; i++) {
                int what = i < 3 ? i : i + 7;
                due("13 rule(" + k + ", " + what + ")", x.rule(k, what), want[k][i]);
            }
            due("13 other what", x.rule(k, 3), NONE);
            due("13 other what", x.rule(k, 9), NONE);
            due("13 other what", x.rule(k, 14), NONE);
            for (int odd : ODD) {
                due("13 odd what", x.rule(k, odd), NONE);
                due("13 odd place", x.rule(odd, k), NONE);
            }
        }
        due("13 beyond", x.rule(3, 0), NONE);
    }

    private static void record() {
        LetterSieve x = new LetterSieve();
        Checks.tell(x, "if from 1 to 4");
        int[] none = {0, 0, 0, NONE};
        for (int what = 0; what < 4; what++) {
            due("14 at first", x.record(0, what), none[what]);
        }
        for (int i = 0; i < 6; i++) {
            x.letter(i < 5 ? 1 : 2, NONE, 0, 0);
        }
        x.move(0, 4);
        x.move(1, 3);
        x.move(2, 0);
        x.move(5, 4);
        int[] some = {5, 1, 2, 4};
        for (int what = 0; what < 4; what++) {
            due("14 record(0, " + what + ")", x.record(0, what), some[what]);
        }
        x.undo();
        x.undo();
        due("14 undone", x.record(0, 2), 1);
        x.move(1, 4);
        due("14 the last one holds", x.record(0, 1), 2);
        due("14 the last one holds", x.record(0, 2), 0);
        due("14 other what", x.record(0, 4), NONE);
        due("14 beyond", x.record(1, 0), NONE);
        for (int odd : ODD) {
            due("14 odd", x.record(odd, 0), NONE);
            due("14 odd", x.record(0, odd), NONE);
        }
    }

    private static void both() {
        LetterSieve x = fourFrom(3, 5);
        x.learn();
        Checks.tell(x, "if word 2 to 1");
        Checks.tell(x, "if from 7 to 1");
        Checks.tell(x, "all to 1");
        due("15 hand and learnt", x.both(0, 3), 2);
        due("15 learnt and hand", x.both(3, 0), 2);
        due("15 the least", x.both(2, 3), 0);
        due("15 none", x.both(1, 2), NONE);
        for (int odd : ODD) {
            due("15 odd", x.both(0, odd), NONE);
            due("15 odd", x.both(odd, 0), NONE);
        }
        due("15 beyond", x.both(0, 4), NONE);
    }

    private static void about() {
        LetterSieve x = new LetterSieve();
        Checks.tell(x, "if from 2 to 6");
        Checks.tell(x, "if word 1 to 5");
        x.letter(1, NONE, 0, 2);
        x.letter(1, NONE, 0, 1);
        x.move(0, 3);
        int[][] want = {{3, 1, 5, 3, 1}, {0, NONE, 0, NONE, NONE}};
        for (int n = 0; n < 2; n++) {
            for (int what = 0; what < 5; what++) {
                due("16 about(" + n + ", " + what + ")", x.about(n, what), want[n][what]);
            }
            for (int odd : ODD) {
                due("16 odd", x.about(n, odd), NONE);
                due("16 odd", x.about(odd, n), NONE);
            }
            due("16 other", x.about(n, 5), NONE);
        }
        due("16 beyond", x.about(2, 0), NONE);
        x.drop(0);
        due("16 the place now", x.about(0, 4), 0);
        due("16 the name then", x.about(0, 1), 1);
    }

    private static void heap() {
        LetterSieve x = new LetterSieve();
        x.letter(4, 1, 0, 0);
        due("17 the least of several", x.heap(1), 4);
        x.letter(5, 1, 0, 8);
        due("17 most", x.heap(1), 17);
        due("17 as many", x.heap(2), 17);
        due("17 not so many", x.heap(3), NONE);
        x.letter(6, NONE, 0, 8);
        x.letter(7, NONE, 0, 8);
        due("17 a word", x.heap(3), 27);
        x.move(3, 0);
        due("17 one belongs", x.heap(1), 17);
        x.undo();
        due("17 nowhere again", x.heap(1), 27);
        Checks.tell(x, "if word 3 to 0");
        x.letter(8, NONE, 0, 8);
        due("17 sorted by one", x.heap(4), NONE);
        due("17 0", x.heap(0), NONE);
        due("17 100", x.heap(100), NONE);
        due("17 101", x.heap(101), NONE);
        due("17 -1", x.heap(-1), NONE);
        due("17 the least int", x.heap(Integer.MIN_VALUE), NONE);
        LetterSieve y = new LetterSieve();
        for (int i = 0; i < 100; i++) {
            y.letter(15, 7, 0, 0);
        }
        due("17 100 of them", y.heap(100), 15);
    }

    private static void heaped() {
        LetterSieve x = new LetterSieve();
        x.letter(15, 7, 5, 0x8001);
        x.letter(15, NONE, 5, 0x8000);
        x.letter(0, 0, 5, 0x8000);
        x.move(2, 1);
        for (int code = 0; code < 40; code++) {
            int want = code == 15 || code == 39 ? 2 : code == 23 || code == 24 ? 1 : 0;
            due("18 heaped(" + code + ")", x.heaped(code), want);
        }
        int[] others = {-1, 40, 99, 100, 1100, 2099, Integer.MIN_VALUE, Integer.MAX_VALUE};
        for (int code : others) {
            due("18 heaped(" + code + ")", x.heaped(code), NONE);
        }
    }

    private static void again() {
        LetterSieve x = new LetterSieve();
        for (int i = 0; i < 5; i++) {
            x.letter(i % 2, NONE, 0, 0);
        }
        due("19 none", x.again(), 0);
        Checks.tell(x, "if from 1 to 0");
        due("19 the same folder", x.again(), 0);
        Checks.tell(x, "if from 0 to 3");
        due("19 three", x.again(), 3);
        due("20 first", x.differs(0), 0);
        due("20 second", x.differs(1), 2);
        due("20 third", x.differs(2), 4);
        due("20 none", x.differs(3), NONE);
        for (int odd : ODD) {
            due("20 odd", x.differs(odd), NONE);
        }
        x.move(0, 3);
        due("19 moves change nothing", x.again(), 3);
        due("19 it lies as it lay", x.about(2, 0), 0);
        x.drop(1);
        due("19 dropped", x.again(), 0);
        due("20 dropped", x.differs(0), NONE);
    }

    private static void count() {
        LetterSieve x = fourFrom(3, 5);
        x.letter(0, 0, 0, 0);
        x.learn();
        Checks.tell(x, "all to 7");
        Checks.tell(x, "all to 6");
        x.letter(0, 0, 0, 0);
        x.undo();
        x.feed(0, 0, 0, 0, 0);
        int[] want = {6, 2, 1, 3, 20, 1};
        for (int what = 0; what < 6; what++) {
            due("21 count(" + what + ")", x.count(what), want[what]);
        }
        int[] lying = {2, 0, 0, 0, 0, 3, 0, 1};
        for (int folder = 0; folder < 8; folder++) {
            due("21 count(" + (20 + folder) + ")", x.count(20 + folder), lying[folder]);
        }
        int[] others = {-1, 6, 10, 19, 28, Integer.MIN_VALUE, Integer.MAX_VALUE};
        for (int what : others) {
            due("21 count(" + what + ")", x.count(what), NONE);
        }
    }
}
