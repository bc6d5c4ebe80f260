/** The sentences on COSTS, LEARNT RULES, RECORDS and FADING that name an edge, each by itself. */
public final class EdgesOfLearningTest {
    private static final int NONE = LetterSieve.NONE;
    private static final int LEAST = Integer.MIN_VALUE;
    private static final int GREATEST = Integer.MAX_VALUE;

    private EdgesOfLearningTest() {
    }

    public static void main(String[] args) {
        costsAtFirst();
        costBounds();
        otherCosts();
        lowersTheCost();
        ofAWrongLetter();
        ofThatFolder();
        dearest();
        sixAtMost();
        sixAgain();
        lettersItGoesBy();
        noHandRule();
        eachHandRule();
        behindTheOthers();
        fewestTests();
        leastFirstCode();
        leastSecondCode();
        leastFolder();
        kindsOfTests();
        pairsOfCodes();
        anew();
        latestLearn();
        changed();
        changedOrder();
        changedByFading();
        names();
        nameOfOneThatWasGone();
        namesOfPairs();
        otherRuleAsked();
        codesInOrder();
        record();
        recordGoesOn();
        noFading();
        ofTheLast();
        ofThoseThereAre();
        moreOftenWrong();
        severalFade();
        Checks.finish("EdgesOfLearningTest");
    }

    private static void due(String what, int got, int want) {
        Checks.due(what, got, want);
    }

    private static void says(String quoted) {
        Checks.says(quoted);
    }

    /** LETTERS from one, with nothing else, that BELONG in a FOLDER. */
    private static void group(LetterSieve x, int from, int folder, int many) {
        for (int i = 0; i < many; i++) {
            x.move(Checks.plain(x, from), folder);
        }
    }

    private static LetterSieve taught(int from, int folder, int many) {
        LetterSieve x = new LetterSieve();
        group(x, from, folder, many);
        return x;
    }

    private static void dueLearnt(String what, LetterSieve x, int... want) {
        for (int i = 0; i < want.length; i++) {
            due(what + ", learnt(" + i + ")", x.learnt(i), want[i]);
        }
    }

    private static void dueRecord(String what, LetterSieve x, int k, int... want) {
        for (int i = 0; i < 4; i++) {
            due(what + ", record(" + k + ", " + i + ")", x.record(k, i), want[i]);
        }
    }

    private static void costsAtFirst() {
        says("of a RULE (0 to 100; 3 at first), of a TEST (0 to 100; 1), of a wrong LETTER in a FOLDER (0 to 1000; 2, of FOLDER 7: 10)");
        LetterSieve x = new LetterSieve();
        due("of a RULE", x.cost(0, 3), 3);
        due("of a TEST", x.cost(1, 1), 1);
        for (int folder = 0; folder < 8; folder++) {
            due("in " + folder, x.cost(10 + folder, 0), folder == 7 ? 10 : 2);
        }
    }

    private static void costBounds() {
        says("of a RULE (0 to 100; 3 at first), of a TEST (0 to 100; 1), of a wrong LETTER in a FOLDER (0 to 1000; 2, of FOLDER 7: 10)");
        int[] coins = {LEAST, -1000, -1, 0, 1, 99, 100, 101, 999, 1000, 1001, 65536, GREATEST};
        for (int what = 0; what < 18; what++) {
            int greatest = what < 2 ? 100 : 1000;
            if (what > 1 && what < 10) {
                continue;
            }
            LetterSieve x = new LetterSieve();
            int was = what == 0 ? 3 : what == 1 ? 1 : what == 17 ? 10 : 2;
            for (int coin : coins) {
                boolean told = coin >= 0 && coin <= greatest;
                due("cost(" + what + ", " + coin + ")", x.cost(what, coin), told ? was : NONE);
                was = told ? coin : was;
            }
        }
    }

    private static void otherCosts() {
        says("what it was; NONE, and nothing happens, for others");
        LetterSieve x = new LetterSieve();
        int[] others = {LEAST, LEAST + 10, LEAST + 17, -10, -2, -1, 2, 3, 4, 5, 6, 7, 8, 9, 18, 19,
            20, 27, 256, 266, 65546, GREATEST - 7, GREATEST};
        for (int what : others) {
            due("cost(" + what + ", 5)", x.cost(what, 5), NONE);
        }
        for (int what = 0; what < 18; what++) {
            if (what < 2 || what > 9) {
                int was = what == 0 ? 3 : what == 1 ? 1 : what == 17 ? 10 : 2;
                due("cost(" + what + ", 7)", x.cost(what, 7), was);
            }
        }
    }

    private static void lowersTheCost() {
        says("as long as one more, behind the others, of one TEST or of two unlike ones (from, list, word), to some FOLDER, lowers the COST");
        for (int ofRule = 0; ofRule < 10; ofRule++) {
            for (int ofTest = 0; ofTest < 10; ofTest++) {
                LetterSieve x = taught(3, 5, 4);
                x.cost(0, ofRule);
                x.cost(1, ofTest);
                boolean lowers = ofRule + ofTest < 8;
                due("a RULE of " + ofRule + " + " + ofTest, x.learn(), lowers ? 1 : 0);
                dueLearnt("then", x, lowers ? ofRule + ofTest : 8, 8, 4, lowers ? 1 : 0, 0);
            }
        }
        LetterSieve free = new LetterSieve();
        free.cost(0, 0);
        free.cost(1, 0);
        group(free, 3, 0, 4);
        due("nothing is wrong", free.learn(), 0);
        free.cost(10, 0);
        group(free, 4, 5, 4);
        due("a wrong one costs nothing", free.learn(), 0);
        free.cost(10, 1);
        due("a coin", free.learn(), 1);
    }

    private static void ofAWrongLetter() {
        says("of each of these LETTERS that goes to another FOLDER by them (the first that FITS; without one FOLDER 0) than where it BELONGS");
        int[] coins = {0, 1, 2, 999, 1000};
        for (int coin : coins) {
            LetterSieve x = taught(3, 5, 4);
            group(x, 4, 0, 3);
            x.cost(10, coin);
            due("in FOLDER 0: " + coin, x.learn(), coin > 1 ? 1 : 0);
            dueLearnt("then", x, Math.min(4, 4 * coin), 4 * coin, 7);
        }
    }

    private static void ofThatFolder() {
        says("than where it BELONGS: of that FOLDER");
        for (int folder = 1; folder < 8; folder++) {
            for (int coin = 1; coin < 6; coin++) {
                LetterSieve x = taught(3, folder, 4);
                group(x, 3, folder == 1 ? 2 : 1, 1);
                x.cost(10 + folder, coin);
                boolean lowers = 4 + coin < 10;
                due("into " + folder + ": " + coin, x.learn(), lowers ? 1 : 0);
                dueLearnt("then", x, lowers ? 4 + coin : 10, 10, 5);
            }
        }
    }

    private static void dearest() {
        says("of a wrong LETTER in a FOLDER (0 to 1000");
        LetterSieve x = taught(3, 5, 100);
        x.cost(10, 1000);
        x.cost(0, 100);
        x.cost(1, 100);
        due("all that can be", x.learn(), 1);
        dueLearnt("then", x, 200, 100000, 100, 1, 0);
        for (int i = 0; i < 50; i++) {
            x.move(i, 7);
        }
        for (int folder = 0; folder < 8; folder++) {
            x.cost(10 + folder, folder == 5 ? 999 : 1000);
        }
        due("half of them", x.learn(), 1);
        Checks.dueRule("to the cheaper", x, 0, 5, 3);
        dueLearnt("then", x, 200 + 49950, 100000, 100, 0, 0);
    }

    private static void sixAtMost() {
        says("LEARNT, 6 at most, anew");
        for (int groups = 5; groups <= 8; groups++) {
            LetterSieve x = new LetterSieve();
            for (int g = 0; g < groups; g++) {
                group(x, 15 - g, 1 + g % 7, 4);
            }
            int learnt = Math.min(6, groups);
            due("of " + groups, x.learn(), learnt);
            due("they are there", x.count(2), learnt);
            due("no more", x.rule(learnt, 0), NONE);
            dueLearnt("then", x, 8 * groups - 4 * learnt, 8 * groups, 4 * groups, learnt, 0);
            for (int k = 0; k < learnt; k++) {
                Checks.dueRule("the least CODE first", x, k, 1 + (groups - 1 - k) % 7,
                        16 - groups + k);
            }
        }
    }

    private static void lettersItGoesBy() {
        says("of the LETTERS that BELONG somewhere and that no HAND RULE there FITS");
        LetterSieve x = new LetterSieve();
        due("of none", x.learn(), 0);
        dueLearnt("of none", x, 0, 0, 0, 0, 0);
        for (int i = 0; i < 5; i++) {
            Checks.plain(x, 3);
        }
        due("they belong nowhere", x.learn(), 0);
        dueLearnt("of none", x, 0, 0, 0, 0, 0);
        x.move(0, 0);
        x.move(1, 5);
        x.move(1, 0);
        x.move(2, 6);
        x.learn();
        dueLearnt("right where they lie, too", x, 2, 2, 3, 0, 0);
        x.undo();
        x.learn();
        dueLearnt("an undone move tells nothing", x, 0, 0, 2, 0, 0);
    }

    private static void noHandRule() {
        says("that no HAND RULE there FITS");
        LetterSieve x = taught(3, 5, 4);
        due("learn", x.learn(), 1);
        due("a LEARNT RULE that fits counts not", x.learn(), 1);
        dueLearnt("of all", x, 4, 8, 4, 0, 0);
        Checks.tell(x, "if from 4 to 5");
        x.learn();
        dueLearnt("a RULE that fits others", x, 4, 8, 4, 0, 0);
        Checks.tell(x, "if from 3 to 1");
        due("into another FOLDER, too", x.learn(), 0);
        dueLearnt("of none", x, 0, 0, 0, 0, 1);
        x.drop(0);
        due("it is there yet", x.learn(), 0);
        x.drop(1);
        due("it is gone", x.learn(), 1);
        dueLearnt("of all", x, 4, 8, 4, 1, 0);
    }

    private static void behindTheOthers() {
        says("At first there is none; as long as one more, behind the others");
        LetterSieve x = new LetterSieve();
        for (int i = 0; i < 13; i++) {
            x.letter(i == 0 ? 2 : 1, NONE, 0, i < 7 ? 1 : 2);
            x.move(i, i < 7 ? 3 : 4);
        }
        due("learn", x.learn(), 2);
        Checks.dueRule("the best", x, 0, 3, 24);
        Checks.dueRule("it fits those of the first, too", x, 1, 4, 1);
        dueLearnt("by the first that FITS", x, 8, 26, 13, 2, 0);
        x.letter(1, NONE, 0, 1);
        due("by the first", x.about(13, 1), 100);
    }

    private static void fewestTests() {
        says("of several the one with fewest TESTS");
        LetterSieve x = new LetterSieve();
        x.cost(1, 0);
        for (int i = 0; i < 4; i++) {
            x.letter(9, 2, 0, 6);
            x.move(i, 1);
        }
        x.learn();
        Checks.dueRule("a TEST costs nothing", x, 0, 1, 9);
        LetterSieve y = new LetterSieve();
        y.cost(1, 0);
        for (int i = 0; i < 4; i++) {
            y.letter(i, 0, 0, 0x8000);
            y.move(2 * i, 1);
            y.letter(i, 0, 0, 0);
            y.move(2 * i + 1, 0);
        }
        y.learn();
        Checks.dueRule("one of a great CODE", y, 0, 1, 39);
        says("of one TEST or of two unlike ones");
        LetterSieve z = new LetterSieve();
        for (int i = 0; i < 8; i++) {
            z.letter(i, 3, 0, 0);
            z.move(3 * i, 0);
            z.letter(i + 8, NONE, 0, 16);
            z.move(3 * i + 1, 0);
            z.letter(2 * i, 3, 0, 16);
            z.move(3 * i + 2, 2);
        }
        due("two", z.learn(), 1);
        Checks.dueRule("two", z, 0, 2, 19, 28);
        dueLearnt("two", z, 5, 16, 24, 1, 0);
    }

    private static void leastFirstCode() {
        says("then with the least first CODE (the lesser of two)");
        LetterSieve x = new LetterSieve();
        for (int i = 0; i < 4; i++) {
            x.letter(i, 7, 0, 0x8001);
            x.move(i, 1);
        }
        x.learn();
        Checks.dueRule("of one TEST", x, 0, 1, 23);
        // Words 0 and 6, 1 and 2 mark what belongs; all other pairs of these stand elsewhere, too.
        int[] elsewhere = {0b11, 0b101, 0b1000010, 0b1000100};
        LetterSieve y = new LetterSieve();
        for (int i = 0; i < 4; i++) {
            y.move(y.letter(i, NONE, 0, 0b1000111), 2);
            for (int j = 0; j < 4; j++) {
                y.move(y.letter(4 + j, NONE, 0, elsewhere[j]), 0);
            }
        }
        due("of two TESTS", y.learn(), 1);
        Checks.dueRule("of two TESTS", y, 0, 2, 24, 30);
        dueLearnt("of two TESTS", y, 5, 8, 20, 1, 0);
    }

    private static void leastSecondCode() {
        says("then the least second one");
        LetterSieve x = new LetterSieve();
        for (int i = 0; i < 4; i++) {
            x.move(x.letter(i, NONE, 0, 0xe), 2);
            for (int j = 1; j < 4; j++) {
                x.move(x.letter(3 * i + j, NONE, 0, 1 << j), 0);
            }
        }
        due("learn", x.learn(), 1);
        Checks.dueRule("words 1 and 2, not 3", x, 0, 2, 25, 26);
    }

    private static void leastFolder() {
        says("then the least FOLDER");
        for (int spared = 0; spared < 6; spared++) {
            LetterSieve x = new LetterSieve();
            x.cost(10, 100);
            for (int i = 0; i < 12; i++) {
                x.move(Checks.plain(x, 3), 6 - i % 6 > spared ? 6 - i % 6 : 6);
            }
            x.cost(17, 2);
            x.learn();
            int want = spared == 0 ? 1 : 6;
            due("of the alike ones", x.rule(0, 1), want);
        }
        LetterSieve y = new LetterSieve();
        y.cost(10, 100);
        y.cost(17, 2);
        for (int i = 0; i < 12; i++) {
            y.move(Checks.plain(y, 3), 7 - i % 3);
        }
        y.learn();
        due("of the three last", y.rule(0, 1), 5);
    }

    private static void kindsOfTests() {
        says("of two unlike ones (from, list, word)");
        LetterSieve x = new LetterSieve();
        for (int i = 0; i < 8; i++) {
            x.letter(i, i, i < 4 ? 900 : 100, 0);
            x.move(i, i < 4 ? 5 : 0);
        }
        due("SIZES are not learnt", x.learn(), 0);
        int[][] marked = {{0, NONE, 0}, {15, NONE, 0}, {NONE, 0, 0}, {NONE, 7, 0}, {NONE, NONE, 1},
            {NONE, NONE, 0x8000}};
        int[] codes = {0, 15, 16, 23, 24, 39};
        for (int m = 0; m < codes.length; m++) {
            LetterSieve y = new LetterSieve();
            for (int i = 0; i < 4; i++) {
                int from = marked[m][0] == NONE ? i : marked[m][0];
                y.move(y.letter(from, marked[m][1], 0, marked[m][2]), 5);
            }
            due("CODE " + codes[m], y.learn(), 1);
            Checks.dueRule("the edge", y, 0, 5, codes[m]);
        }
        LetterSieve z = new LetterSieve();
        for (int i = 0; i < 4; i++) {
            z.move(z.letter(i, NONE, 0, 3), 5);
            z.move(z.letter(i, NONE, 0, 1), 0);
            z.move(z.letter(i, NONE, 0, 2), 0);
        }
        due("two words", z.learn(), 1);
        Checks.dueRule("two words", z, 0, 5, 24, 25);
    }

    /** LETTERS that only two TESTS together tell apart from others. */
    private static LetterSieve taughtPair(int folder, int[] both, int[] one, int[] other) {
        LetterSieve x = new LetterSieve();
        for (int i = 0; i < 4; i++) {
            x.move(x.letter(both[0] + i * both[3], both[1], 0, both[2]), folder);
            if (i < 2) {
                x.move(x.letter(one[0] + i * one[3], one[1], 0, one[2]), 0);
                x.move(x.letter(other[0] + i * other[3], other[1], 0, other[2]), 0);
            }
        }
        return x;
    }

    private static void pairsOfCodes() {
        says("of two unlike ones (from, list, word)");
        LetterSieve least = taughtPair(1, new int[] {0, 0, 0, 0}, new int[] {0, NONE, 0, 0},
                new int[] {5, 0, 0, 1});
        due("from 0, list 0", least.learn(), 1);
        Checks.dueRule("from 0, list 0", least, 0, 1, 0, 16);
        LetterSieve far = taughtPair(7, new int[] {0, NONE, 0x8000, 0}, new int[] {0, NONE, 0, 0},
                new int[] {5, NONE, 0x8000, 1});
        due("from 0, word 15", far.learn(), 1);
        Checks.dueRule("from 0, word 15", far, 0, 7, 0, 39);
        LetterSieve greatest = taughtPair(1, new int[] {0, NONE, 0xc000, 1},
                new int[] {5, NONE, 0x8000, 1}, new int[] {8, NONE, 0x4000, 1});
        due("words 14, 15", greatest.learn(), 1);
        Checks.dueRule("words 14, 15", greatest, 0, 1, 38, 39);
        LetterSieve lists = taughtPair(2, new int[] {15, 7, 0, 0}, new int[] {15, NONE, 0, 0},
                new int[] {5, 7, 0, 1});
        due("from 15, list 7", lists.learn(), 1);
        Checks.dueRule("from 15, list 7", lists, 0, 2, 15, 23);
    }

    private static void namesOfPairs() {
        says("A LEARNT RULE that is LEARNT again is the same RULE, its RECORD goes on");
        LetterSieve x = taughtPair(2, new int[] {0, 0, 0, 0}, new int[] {0, NONE, 0, 0},
                new int[] {5, 0, 0, 1});
        x.learn();
        x.letter(0, 0, 0, 0);
        x.learn();
        due("the same", x.rule(0, 0), 100);
        dueRecord("goes on", x, 0, 1, 0, 0, 8);
        due("names", x.count(5), 1);
        for (int i = 0; i < 8; i++) {
            x.move(i, 0);
        }
        for (int i = 0; i < 4; i++) {
            x.move(x.letter(0, 1, 0, 0), 2);
        }
        x.learn();
        Checks.dueRule("another second CODE", x, 0, 2, 17);
        x.move(x.letter(7, 1, 0, 0), 0);
        x.move(x.letter(8, 1, 0, 0), 0);
        x.learn();
        Checks.dueRule("another second CODE", x, 0, 2, 0, 17);
        due("another RULE", x.rule(0, 0), 102);
        dueRecord("of its own", x, 0, 0, 0, 0, NONE);
    }

    private static void eachHandRule() {
        says("that no HAND RULE there FITS");
        LetterSieve x = taught(3, 5, 4);
        for (int number = 0; number < 10; number++) {
            Checks.tell(x, "if from 8 to 1");
        }
        for (int number = 0; number < 10; number++) {
            x.drop(number);
            Checks.tell(x, "if from 3 to 1");
            due("HAND RULE " + number + " fits", x.learn(), 0);
            dueLearnt("of none", x, 0, 0, 0);
            x.drop(number);
            due("it went", x.learn(), 1);
            Checks.tell(x, "if from 8 to 1");
            due("it fits others", x.learn(), 1);
            dueLearnt("of all", x, 4, 8, 4);
        }
    }

    private static void sixAgain() {
        says("LEARNT, 6 at most, anew");
        LetterSieve x = new LetterSieve();
        for (int g = 0; g < 8; g++) {
            group(x, g, 1 + g % 7, 4);
        }
        x.learn();
        due("six again", x.learn(), 6);
        dueLearnt("the same", x, 40, 64, 32, 0, 0);
        group(x, 14, 1, 9);
        group(x, 15, 2, 8);
        due("six, two of them new", x.learn(), 6);
        dueLearnt("two others gone", x, 56, 98, 49, 2, 2);
        int[] names = {106, 107, 100, 101, 102, 103};
        for (int k = 0; k < 6; k++) {
            due("the name at " + k, x.rule(k, 0), names[k]);
        }
    }

    private static void anew() {
        says("LEARNT anew: how many RULES.");
        LetterSieve x = taught(3, 5, 4);
        due("one", x.learn(), 1);
        group(x, 4, 6, 4);
        due("two", x.learn(), 2);
        due("as before", x.learn(), 2);
        for (int i = 0; i < 4; i++) {
            x.move(i, 0);
        }
        due("one", x.learn(), 1);
        Checks.dueRule("the later one", x, 0, 6, 4);
        x.cost(0, 100);
        due("too dear", x.learn(), 0);
        due("the row", x.rule(0, 0), NONE);
    }

    private static void latestLearn() {
        says("NONE ahead of any, or for another what.");
        LetterSieve x = taught(3, 5, 4);
        for (int what = 0; what < 5; what++) {
            due("ahead of any", x.learnt(what), NONE);
        }
        x.learn();
        int[] others = {LEAST, -2, -1, 5, 6, 10, 256, 65536, GREATEST};
        for (int what : others) {
            due("learnt(" + what + ")", x.learnt(what), NONE);
        }
        says("Of the latest learn()");
        x.cost(0, 0);
        x.move(0, 0);
        x.fade(1);
        group(x, 4, 6, 4);
        dueLearnt("as it was", x, 4, 8, 4, 1, 0);
        x.learn();
        dueLearnt("the next", x, 1 + 1 + 2, 14, 8, 2, 0);
        LetterSieve y = new LetterSieve();
        y.learn();
        dueLearnt("of nothing", y, 0, 0, 0, 0, 0);
    }

    private static void changed() {
        says("how many RULES are LEARNT that were not (TESTS and FOLDER) ahead of it, and those that are no more");
        LetterSieve x = taught(3, 5, 4);
        x.learn();
        dueLearnt("the first", x, 4, 8, 4, 1, 0);
        for (int i = 0; i < 4; i++) {
            x.move(i, 6);
        }
        x.learn();
        dueLearnt("another FOLDER", x, 4, 8, 4, 1, 1);
        group(x, 4, 1, 4);
        x.learn();
        dueLearnt("one more", x, 8, 16, 8, 1, 0);
        x.learn();
        dueLearnt("the same", x, 8, 16, 8, 0, 0);
        x.cost(0, 100);
        x.learn();
        dueLearnt("both gone", x, 16, 16, 8, 0, 2);
        x.cost(0, 3);
        x.learn();
        dueLearnt("both back", x, 8, 16, 8, 2, 0);
    }

    private static void changedOrder() {
        says("how many RULES are LEARNT that were not (TESTS and FOLDER) ahead of it");
        LetterSieve x = taught(1, 5, 6);
        group(x, 2, 6, 5);
        x.learn();
        due("first", x.rule(0, 0), 100);
        due("second", x.rule(1, 0), 101);
        group(x, 2, 6, 3);
        x.learn();
        due("first", x.rule(0, 0), 101);
        due("second", x.rule(1, 0), 100);
        dueLearnt("another order", x, 8, 28, 14, 0, 0);
        due("names", x.count(5), 2);
    }

    private static void changedByFading() {
        says("how many RULES are LEARNT that were not (TESTS and FOLDER) ahead of it");
        LetterSieve x = taught(3, 5, 4);
        x.learn();
        due("it fades", x.fade(100), 1);
        dueLearnt("as it was", x, 4, 8, 4, 1, 0);
        x.learn();
        dueLearnt("it was not there", x, 4, 8, 4, 1, 0);
        due("names", x.count(5), 1);
        x.fade(100);
        x.cost(0, 100);
        x.learn();
        dueLearnt("it had gone", x, 8, 8, 4, 0, 0);
    }

    private static void names() {
        says("LEARNT ones 100, 101, .. as they are LEARNT first");
        LetterSieve x = taught(1, 5, 5);
        group(x, 2, 6, 6);
        due("names", x.count(5), 0);
        x.learn();
        due("the best is first", x.rule(0, 0), 100);
        due("its CODE", x.rule(0, 10), 2);
        due("then", x.rule(1, 0), 101);
        group(x, 3, 4, 7);
        x.learn();
        due("a new one ahead", x.rule(0, 0), 102);
        due("its CODE", x.rule(0, 10), 3);
        due("the others", x.rule(1, 0), 100);
        due("the others", x.rule(2, 0), 101);
        due("names", x.count(5), 3);
        says("HAND RULE k: k");
        Checks.tell(x, "all to 1");
        Checks.tell(x, "all to 1");
        x.drop(0);
        due("its number, not its place", x.rule(0, 0), 1);
        due("behind it", x.rule(1, 0), 102);
    }

    private static void nameOfOneThatWasGone() {
        says("A LEARNT RULE that is LEARNT again is the same RULE, its RECORD goes on");
        LetterSieve x = taught(3, 5, 4);
        for (int round = 0; round < 6; round++) {
            for (int i = 0; i < 4; i++) {
                x.move(i, 5 + round % 3);
            }
            x.learn();
            due("the name of round " + round, x.rule(0, 0), 100 + round % 3);
            due("names", x.count(5), Math.min(3, round + 1));
            Checks.plain(x, 3);
            due("its record", x.record(0, 0), 1 + round / 3);
        }
    }

    private static void otherRuleAsked() {
        says("CODES of these in their order (of LEARNT ones the lesser first). NONE without it, or for another what.");
        LetterSieve x = taught(3, 5, 4);
        x.learn();
        Checks.tell(x, "if below 7 and above 5 to 2");
        int[] places = {LEAST, LEAST + 1, -16, -2, -1, 2, 3, 9, 10, 15, 16, 100, 256, 65536,
            GREATEST};
        int[] whats = {LEAST, LEAST + 10, -10, -2, -1, 3, 4, 5, 6, 7, 8, 9, 14, 15, 100, 256, 266,
            GREATEST};
        for (int place : places) {
            for (int what = 0; what < 4; what++) {
                due("rule(" + place + ", " + what + ")", x.rule(place, what), NONE);
                due("record(" + place + ", " + what + ")", x.record(place, what), NONE);
            }
            due("rule(" + place + ", 10)", x.rule(place, 10), NONE);
        }
        for (int what : whats) {
            due("rule(0, " + what + ")", x.rule(0, what), NONE);
            due("rule(1, " + what + ")", x.rule(1, what), NONE);
            due("record(0, " + what + ")", x.record(0, what), NONE);
        }
        due("TESTS", x.rule(0, 2), 2);
        due("no third", x.rule(0, 12), NONE);
        due("no fourth", x.rule(0, 13), NONE);
        due("no second", x.rule(1, 11), NONE);
    }

    private static void codesInOrder() {
        says("CODES of these in their order (of LEARNT ones the lesser first)");
        LetterSieve x = new LetterSieve();
        Checks.tell(x, "if word 9 and below 1 and from 2 and above 3 to 4");
        Checks.dueRule("as told", x, 0, 4, 33, 1101, 2, 103);
        for (int i = 0; i < 4; i++) {
            x.move(x.letter(7, 5, 500, 1 << i), 6);
            x.move(x.letter(7, NONE, 500, 1 << i), 0);
            x.move(x.letter(i, 5, 500, 1 << i), 0);
        }
        due("learn", x.learn(), 1);
        Checks.dueRule("the lesser first", x, 1, 6, 7, 21);
    }

    private static void record() {
        says("of LETTERS SORTED by it that BELONG somewhere: RIGHT, if that is its FOLDER, else WRONG; how many it SORTED in all; the last one");
        LetterSieve x = new LetterSieve();
        Checks.tell(x, "if from 1 to 0");
        Checks.tell(x, "if from 2 to 7");
        dueRecord("none", x, 0, 0, 0, 0, NONE);
        Checks.plain(x, 1);
        dueRecord("the first", x, 0, 1, 0, 0, 0);
        Checks.plain(x, 2);
        Checks.plain(x, 3);
        Checks.plain(x, 1);
        Checks.plain(x, 2);
        dueRecord("belonging nowhere", x, 0, 2, 0, 0, 3);
        x.move(0, 0);
        x.move(3, 7);
        x.move(1, 7);
        x.move(4, 0);
        x.move(2, 0);
        dueRecord("to FOLDER 0", x, 0, 2, 1, 1, 3);
        dueRecord("to FOLDER 7", x, 1, 2, 1, 1, 4);
        x.undo();
        x.undo();
        dueRecord("undone", x, 1, 2, 1, 0, 4);
        x.move(1, 3);
        x.move(1, 4);
        dueRecord("twice wrong is one", x, 1, 2, 0, 1, 4);
        x.drop(0);
        dueRecord("at another place", x, 0, 2, 0, 1, 4);
    }

    private static void recordGoesOn() {
        says("A LEARNT RULE that is LEARNT again is the same RULE, its RECORD goes on");
        LetterSieve x = taught(3, 5, 4);
        x.learn();
        Checks.plain(x, 3);
        x.move(4, 1);
        dueRecord("wrong", x, 0, 1, 0, 1, 4);
        due("it fades", x.fade(100), 1);
        due("sorted by it yet", x.about(4, 1), 100);
        Checks.plain(x, 3);
        due("sorted by none", x.about(5, 1), NONE);
        x.learn();
        due("the same", x.rule(0, 0), 100);
        dueRecord("goes on", x, 0, 1, 0, 1, 4);
        Checks.plain(x, 3);
        x.move(6, 5);
        dueRecord("goes on", x, 0, 2, 1, 1, 6);
    }

    private static void noFading() {
        says("FADING: how many go; NONE, and nothing happens, for n not 1 to 100.");
        LetterSieve x = taught(3, 5, 4);
        due("nothing was learnt", x.fade(1), 0);
        due("nothing was learnt", x.fade(100), 0);
        x.learn();
        int[] odd = {LEAST, -100, -1, 0, 101, 102, 256, 65536, GREATEST};
        for (int n : odd) {
            due("fade(" + n + ")", x.fade(n), NONE);
        }
        due("it is there", x.count(2), 1);
        due("it has sorted none", x.fade(1), 1);
        due("it is gone", x.count(2), 0);
        due("once", x.fade(1), 0);
    }

    /** One that a learnt rule sorted, then others. */
    private static LetterSieve sortedThen(int others) {
        LetterSieve x = taught(3, 5, 4);
        x.learn();
        Checks.plain(x, 3);
        for (int i = 0; i < others; i++) {
            Checks.plain(x, 8);
        }
        return x;
    }

    private static void ofTheLast() {
        says("LEARNT RULES go that have SORTED none of the last n LETTERS");
        int[] others = {0, 1, 2, 50, 94, 95};
        for (int many : others) {
            if (many > 0) {
                due("one too few", sortedThen(many).fade(many), 1);
            }
            due("just so", sortedThen(many).fade(many + 1), 0);
            due("the greatest n", sortedThen(many).fade(100), 0);
        }
        LetterSieve x = taught(3, 5, 4);
        x.learn();
        for (int i = 4; i < 100; i++) {
            Checks.plain(x, 8);
        }
        due("the taught ones it has not sorted", x.fade(100), 1);
    }

    private static void ofThoseThereAre() {
        says("the last n LETTERS (n 1 to 100, of those there are)");
        for (int n = 1; n <= 100; n++) {
            LetterSieve x = sortedThen(3);
            due("of 8, fade(" + n + ")", x.fade(n), n < 4 ? 1 : 0);
            due("LEARNT RULES", x.count(2), n < 4 ? 0 : 1);
        }
    }

    private static void moreOftenWrong() {
        says("or that are more often WRONG than RIGHT");
        for (int right = 0; right < 4; right++) {
            for (int wrong = 0; wrong < 4; wrong++) {
                LetterSieve x = taught(3, 5, 4);
                x.learn();
                for (int i = 0; i < right + wrong + 1; i++) {
                    Checks.plain(x, 3);
                    if (i > 0) {
                        x.move(4 + i, i <= right ? 5 : 0);
                    }
                }
                dueRecord("ahead", x, 0, right + wrong + 1, right, wrong, 4 + right + wrong);
                due(right + " right, " + wrong + " wrong", x.fade(100), wrong > right ? 1 : 0);
            }
        }
    }

    private static void severalFade() {
        says("FADING: how many go");
        LetterSieve x = new LetterSieve();
        for (int g = 1; g <= 6; g++) {
            group(x, g, g, 4);
        }
        Checks.tell(x, "if above 500 to 1");
        due("six", x.learn(), 6);
        Checks.plain(x, 2);
        Checks.plain(x, 4);
        Checks.plain(x, 5);
        x.move(25, 0);
        due("four go", x.fade(3), 4);
        due("a HAND RULE never", x.count(1), 1);
        due("two are left", x.count(2), 2);
        due("in their order", x.rule(1, 0), 101);
        due("in their order", x.rule(2, 0), 104);
        due("no more", x.rule(3, 0), NONE);
        due("none goes", x.fade(3), 0);
        due("the first of them", x.fade(1), 1);
        due("the last of them", x.rule(1, 0), 104);
        due("letters lie where they lay", x.about(25, 0), 0);
        due("sorted by one that went", x.about(24, 1), 101);
    }
}
