import java.util.ArrayList;

/**
 * A sieve for letters: rules told by a hand or learnt from moves, and letters sorted by the first
 * rule that fits. The numbered promises that it keeps stand in DOC.md.
 */
public final class LetterSieve {
    public static final int NONE = -1;

    private static final int MOST_BYTES = 100;
    private static final int BYTES_FED = 20;
    private static final int MOST_LETTERS = 100;
    private static final int MOST_MOVES = 200;
    private static final int MOST_HAND_RULES = 10;
    private static final int MOST_LEARNT_RULES = 6;
    private static final int MOST_TESTS = 4;
    private static final int FIRST_LEARNT_NAME = 100;

    private static final int FOLDERS = 8;
    private static final int SENDERS = 16;
    private static final int LISTS = 8;
    private static final int SIZES = 1000;
    private static final int WORD_SETS = 1 << 16;

    // A kind of TEST is named by the CODE of its number 0.
    private static final int FROM = 0;
    private static final int LIST = 16;
    private static final int WORD = 24;
    private static final int ABOVE = 100;
    private static final int BELOW = 1100;
    /** How many CODES there are of from, list and word: those that can be LEARNT and heaped. */
    private static final int MARKS = 40;

    private final Tape tape;
    private final RuleReader reader;
    private final Row row;
    private final Mail mail;
    private final Moves moves;
    private final Costs costs;
    private final Learner learner;

    public LetterSieve() {
        tape = new Tape();
        reader = new RuleReader(tape);
        row = new Row();
        mail = new Mail();
        moves = new Moves();
        costs = new Costs();
        learner = new Learner(costs);
    }

    public int feed(int a, int b, int c, int d, int e) {
        if (tape.length + BYTES_FED > MOST_BYTES) {
            return NONE;
        }
        tape.append(a);
        tape.append(b);
        tape.append(c);
        tape.append(d);
        tape.append(e);
        return tape.length;
    }

    public int end(int n) {
        if (n < 0 || n > tape.length) {
            return NONE;
        }
        tape.length = n;
        return n;
    }

    public int hand() {
        int number = row.freeHandNumber();
        if (number == NONE) {
            return NONE;
        }
        int fault = reader.readTape();
        tape.length = 0;
        if (fault != 0) {
            return -2 - fault;
        }
        row.hands[number] = reader.toRule(number);
        return number;
    }

    public boolean drop(int rule) {
        if (rule < 0 || rule >= MOST_HAND_RULES || row.hands[rule] == null) {
            return false;
        }
        row.hands[rule] = null;
        return true;
    }

    public int letter(int from, int list, int size, int words) {
        boolean asTold = isWithin(from, SENDERS)
                && (list == NONE || isWithin(list, LISTS))
                && isWithin(size, SIZES)
                && isWithin(words, WORD_SETS);
        if (!asTold || mail.size == MOST_LETTERS) {
            return NONE;
        }
        Letter come = new Letter(from, list, size, words);
        come.sortBy(row.firstThatFits(come));
        return mail.add(come);
    }

    public boolean move(int letter, int folder) {
        Letter moved = mail.get(letter);
        if (moved == null || !isWithin(folder, FOLDERS) || moves.size == MOST_MOVES) {
            return false;
        }
        moves.push(letter, moved);
        moved.lies = folder;
        moved.belongs = folder;
        return true;
    }

    public int undo() {
        return moves.takeBack(mail);
    }

    public int cost(int what, int coins) {
        return costs.change(what, coins);
    }

    public int learn() {
        learner.learnAnew(mail, row);
        return row.learntSize;
    }

    public int learnt(int what) {
        if (!learner.hasLearnt) {
            return NONE;
        }
        switch (what) {
            case 0:
                return learner.costAtLast;
            case 1:
                return learner.costWithout;
            case 2:
                return learner.wentBy;
            case 3:
                return learner.newOnes;
            case 4:
                return learner.goneOnes;
            default:
                return NONE;
        }
    }

    public int fade(int n) {
        if (n < 1 || n > MOST_LETTERS) {
            return NONE;
        }
        int kept = 0;
        for (int i = 0; i < row.learntSize; i++) {
            Rule rule = row.learnt[i];
            if (!isFading(rule, n)) {
                row.learnt[kept] = rule;
                kept++;
            }
        }
        int gone = row.learntSize - kept;
        row.learntSize = kept;
        return gone;
    }

    public int rule(int k, int what) {
        Rule asked = row.get(k);
        if (asked == null) {
            return NONE;
        }
        switch (what) {
            case 0:
                return asked.name;
            case 1:
                return asked.folder;
            case 2:
                return asked.codes.length;
            default:
                return asked.codeAt(what - 10);
        }
    }

    public int record(int k, int what) {
        Rule asked = row.get(k);
        if (asked == null) {
            return NONE;
        }
        switch (what) {
            case 0:
                return mail.sortedBy(asked);
            case 1:
                return mail.rightBy(asked);
            case 2:
                return mail.wrongBy(asked);
            case 3:
                return mail.lastBy(asked);
            default:
                return NONE;
        }
    }

    public int both(int k, int l) {
        Rule one = row.get(k);
        Rule other = row.get(l);
        if (one == null || other == null) {
            return NONE;
        }
        for (int i = 0; i < mail.size; i++) {
            if (one.fits(mail.letters[i]) && other.fits(mail.letters[i])) {
                return i;
            }
        }
        return NONE;
    }

    public int about(int letter, int what) {
        Letter asked = mail.get(letter);
        if (asked == null) {
            return NONE;
        }
        switch (what) {
            case 0:
                return asked.lies;
            case 1:
                return asked.sorter == null ? NONE : asked.sorter.name;
            case 2:
                return asked.sortedInto;
            case 3:
                return asked.belongs;
            case 4:
                return row.placeThatFits(asked);
            default:
                return NONE;
        }
    }

    public int heap(int n) {
        if (n < 1 || n > MOST_LETTERS) {
            return NONE;
        }
        int fullest = NONE;
        int most = n - 1;
        for (int code = 0; code < MARKS; code++) {
            int passing = mail.unsortedPassing(code);
            if (passing > most) {
                most = passing;
                fullest = code;
            }
        }
        return fullest;
    }

    public int heaped(int code) {
        return isWithin(code, MARKS) ? mail.unsortedPassing(code) : NONE;
    }

    public int again() {
        int differing = 0;
        for (int i = 0; i < mail.size; i++) {
            if (wouldGoElsewhere(mail.letters[i])) {
                differing++;
            }
        }
        return differing;
    }

    public int differs(int k) {
        int ahead = 0;
        for (int i = 0; i < mail.size; i++) {
            if (wouldGoElsewhere(mail.letters[i])) {
                if (ahead == k) {
                    return i;
                }
                ahead++;
            }
        }
        return NONE;
    }

    public int count(int what) {
        switch (what) {
            case 0:
                return mail.size;
            case 1:
                return row.handSize();
            case 2:
                return row.learntSize;
            case 3:
                return moves.size;
            case 4:
                return tape.length;
            case 5:
                return learner.known.size();
            default:
                return isWithin(what - 20, FOLDERS) ? mail.lyingIn(what - 20) : NONE;
        }
    }

    private static boolean isWithin(int number, int bound) {
        return number >= 0 && number < bound;
    }

    private boolean isFading(Rule rule, int lastLetters) {
        int firstOfLast = Math.max(0, mail.size - lastLetters);
        return mail.lastBy(rule) < firstOfLast || mail.wrongBy(rule) > mail.rightBy(rule);
    }

    private boolean wouldGoElsewhere(Letter played) {
        Rule first = row.firstThatFits(played);
        int folder = first == null ? 0 : first.folder;
        return folder != played.sortedInto;
    }

    /** The bytes that were fed and are no HAND RULE yet. */
    private static final class Tape {
        private final int[] bytes = new int[MOST_BYTES];
        private int length;

        /** Four bytes, the highest first; without room for them none comes. */
        void append(int number) {
            if (length > MOST_BYTES - 4) {
                return;
            }
            for (int shift = 24; shift >= 0; shift -= 8) {
                bytes[length] = (number >>> shift) & 255;
                length++;
            }
        }
    }

    /**
     * Reads a HAND RULE along the TAPE. It reads on behind a FAULT, as only the first one counts
     * and nothing that is read behind it is used.
     */
    private static final class RuleReader {
        private static final int CANNOT_STAND = 0;
        private static final int WRONG_NUMBER = 1;
        private static final int FIFTH_TEST = 2;
        private static final int BEHIND_RULE = 3;
        private static final int MOST_DIGITS = 3;

        private final Tape tape;
        private final int[] codes = new int[MOST_TESTS];
        private int tests;
        private int folder;
        private int fault;
        /** The place of the next byte to read. */
        private int at;
        /** The place where the WORD or NUMBER that was read last starts. */
        private int start;

        RuleReader(Tape tape) {
            this.tape = tape;
        }

        /** The first FAULT; 0 if there is none. */
        int readTape() {
            at = 0;
            tests = 0;
            fault = 0;
            readWord();
            if (wordIs("if")) {
                readTests();
            } else if (wordIs("all")) {
                readWord();
            } else {
                blame(CANNOT_STAND);
            }
            if (!wordIs("to")) {
                blame(CANNOT_STAND);
            }
            folder = readNumber(FOLDERS - 1);
            readEnd();
            return fault;
        }

        Rule toRule(int name) {
            int[] own = new int[tests];
            System.arraycopy(codes, 0, own, 0, tests);
            return new Rule(name, own, folder);
        }

        /** Ends with the WORD behind the last TEST as the one read last. */
        private void readTests() {
            readTest();
            readWord();
            for (int i = 0; i < MOST_TESTS && wordIs("and"); i++) {
                readTest();
                readWord();
            }
        }

        private void readTest() {
            readWord();
            int kind = kindOfWord();
            if (kind == NONE) {
                blame(CANNOT_STAND);
            } else if (tests == MOST_TESTS) {
                blame(FIFTH_TEST);
            } else {
                codes[tests] = kind + readNumber(greatestOf(kind));
                tests++;
            }
        }

        private int kindOfWord() {
            if (wordIs("from")) {
                return FROM;
            }
            if (wordIs("list")) {
                return LIST;
            }
            if (wordIs("word")) {
                return WORD;
            }
            if (wordIs("above")) {
                return ABOVE;
            }
            return wordIs("below") ? BELOW : NONE;
        }

        private static int greatestOf(int kind) {
            switch (kind) {
                case FROM:
                    return SENDERS - 1;
                case LIST:
                    return LISTS - 1;
                case WORD:
                    return MARKS - WORD - 1;
                default:
                    return SIZES - 1;
            }
        }

        private void readWord() {
            skipBlanks();
            start = at;
            while (at < tape.length && tape.bytes[at] >= 'a' && tape.bytes[at] <= 'z') {
                at++;
            }
        }

        private boolean wordIs(String word) {
            if (at - start != word.length()) {
                return false;
            }
            for (int i = 0; i < word.length(); i++) {
                if (tape.bytes[start + i] != word.charAt(i)) {
                    return false;
                }
            }
            return true;
        }

        private int readNumber(int greatest) {
            skipBlanks();
            start = at;
            int number = 0;
            while (at < tape.length && tape.bytes[at] >= '0' && tape.bytes[at] <= '9') {
                // Held at SIZES, which is too great everywhere, so that no row of digits wraps.
                number = Math.min(SIZES, number * 10 + tape.bytes[at] - '0');
                at++;
            }
            if (at == start) {
                blame(CANNOT_STAND);
            } else if (at - start > MOST_DIGITS || number > greatest) {
                blame(WRONG_NUMBER);
            }
            return number;
        }

        private void readEnd() {
            skipBlanks();
            start = at;
            if (at < tape.length) {
                blame(BEHIND_RULE);
            }
        }

        private void skipBlanks() {
            while (at < tape.length && tape.bytes[at] == ' ') {
                at++;
            }
        }

        private void blame(int kind) {
            if (fault == 0) {
                fault = 1 + 8 * start + kind;
            }
        }
    }

    private static final class Rule {
        private final int name;
        private final int[] codes;
        private final int folder;

        Rule(int name, int[] codes, int folder) {
            this.name = name;
            this.codes = codes;
            this.folder = folder;
        }

        boolean fits(Letter letter) {
            for (int i = 0; i < codes.length; i++) {
                if (!letter.passes(codes[i])) {
                    return false;
                }
            }
            return true;
        }

        int codeAt(int place) {
            return isWithin(place, codes.length) ? codes[place] : NONE;
        }

        /** Whether these are its TESTS (NONE as the second: only one) and its FOLDER. */
        boolean tells(int first, int second, int toFolder) {
            return codeAt(0) == first && codeAt(1) == second && folder == toFolder;
        }
    }

    private static final class Letter {
        /** Bit c: it passes CODE c of from, list, word. */
        private final long marks;
        private final int size;
        /** The RULE by which it was SORTED; null: by none. */
        private Rule sorter;
        private int sortedInto;
        private int lies;
        private int belongs;

        Letter(int from, int list, int size, int words) {
            long found = 1L << (FROM + from) | (long) words << WORD;
            if (list != NONE) {
                found |= 1L << (LIST + list);
            }
            this.marks = found;
            this.size = size;
            this.belongs = NONE;
        }

        void sortBy(Rule first) {
            sorter = first;
            sortedInto = first == null ? 0 : first.folder;
            lies = sortedInto;
        }

        boolean passes(int code) {
            if (code >= BELOW) {
                return size < code - BELOW;
            }
            if (code >= ABOVE) {
                return size > code - ABOVE;
            }
            return passesAll(1L << code);
        }

        boolean passesAll(long wanted) {
            return (marks & wanted) == wanted;
        }
    }

    /** The ROW of RULES. */
    private static final class Row {
        /** By numbers; null: not there. */
        private final Rule[] hands = new Rule[MOST_HAND_RULES];
        private final Rule[] learnt = new Rule[MOST_LEARNT_RULES];
        private int learntSize;

        int freeHandNumber() {
            for (int i = 0; i < MOST_HAND_RULES; i++) {
                if (hands[i] == null) {
                    return i;
                }
            }
            return NONE;
        }

        int handSize() {
            int there = 0;
            for (int i = 0; i < MOST_HAND_RULES; i++) {
                if (hands[i] != null) {
                    there++;
                }
            }
            return there;
        }

        /** The RULE at a place; null without it. */
        Rule get(int place) {
            int ahead = 0;
            for (int i = 0; i < MOST_HAND_RULES; i++) {
                if (hands[i] != null) {
                    if (ahead == place) {
                        return hands[i];
                    }
                    ahead++;
                }
            }
            // A place below 0 must not come within by the subtraction's wrap-around.
            return place >= ahead && place - ahead < learntSize ? learnt[place - ahead] : null;
        }

        int placeThatFits(Letter letter) {
            int ahead = 0;
            for (int i = 0; i < MOST_HAND_RULES; i++) {
                if (hands[i] != null) {
                    if (hands[i].fits(letter)) {
                        return ahead;
                    }
                    ahead++;
                }
            }
            for (int i = 0; i < learntSize; i++) {
                if (learnt[i].fits(letter)) {
                    return ahead + i;
                }
            }
            return NONE;
        }

        /** Null if none fits. */
        Rule firstThatFits(Letter letter) {
            return get(placeThatFits(letter));
        }

        boolean anyHandFits(Letter letter) {
            for (int i = 0; i < MOST_HAND_RULES; i++) {
                if (hands[i] != null && hands[i].fits(letter)) {
                    return true;
                }
            }
            return false;
        }

        void addLearnt(Rule rule) {
            if (learntSize < MOST_LEARNT_RULES) {
                learnt[learntSize] = rule;
                learntSize++;
            }
        }
    }

    /** The LETTERS that came. They tell the RECORDS, so that a MOVE or its undoing needs no count. */
    private static final class Mail {
        private final Letter[] letters = new Letter[MOST_LETTERS];
        private int size;

        int add(Letter come) {
            if (size == MOST_LETTERS) {
                return NONE;
            }
            letters[size] = come;
            size++;
            return size - 1;
        }

        /** Null without it. */
        Letter get(int number) {
            return isWithin(number, size) ? letters[number] : null;
        }

        int sortedBy(Rule rule) {
            int sorted = 0;
            for (int i = 0; i < size; i++) {
                if (letters[i].sorter == rule) {
                    sorted++;
                }
            }
            return sorted;
        }

        int rightBy(Rule rule) {
            int right = 0;
            for (int i = 0; i < size; i++) {
                if (letters[i].sorter == rule && letters[i].belongs == rule.folder) {
                    right++;
                }
            }
            return right;
        }

        int wrongBy(Rule rule) {
            int wrong = 0;
            for (int i = 0; i < size; i++) {
                Letter letter = letters[i];
                if (letter.sorter == rule && letter.belongs != NONE && letter.belongs != rule.folder) {
                    wrong++;
                }
            }
            return wrong;
        }

        int lastBy(Rule rule) {
            for (int i = size - 1; i >= 0; i--) {
                if (letters[i].sorter == rule) {
                    return i;
                }
            }
            return NONE;
        }

        /** LETTERS SORTED by none that BELONG nowhere and pass a CODE. */
        int unsortedPassing(int code) {
            int passing = 0;
            for (int i = 0; i < size; i++) {
                Letter letter = letters[i];
                if (letter.sorter == null && letter.belongs == NONE && letter.passes(code)) {
                    passing++;
                }
            }
            return passing;
        }

        int lyingIn(int folder) {
            int lying = 0;
            for (int i = 0; i < size; i++) {
                if (letters[i].lies == folder) {
                    lying++;
                }
            }
            return lying;
        }
    }

    /** The MOVES that can be UNDONE, each with what held ahead of it. */
    private static final class Moves {
        private final int[] numbers = new int[MOST_MOVES];
        private final int[] lay = new int[MOST_MOVES];
        private final int[] belonged = new int[MOST_MOVES];
        private int size;

        void push(int number, Letter moved) {
            if (size < MOST_MOVES) {
                numbers[size] = number;
                lay[size] = moved.lies;
                belonged[size] = moved.belongs;
                size++;
            }
        }

        /** The number of the LETTER whose last MOVE is taken back; NONE without one. */
        int takeBack(Mail mail) {
            if (size == 0) {
                return NONE;
            }
            size--;
            Letter moved = mail.get(numbers[size]);
            if (moved != null) {
                moved.lies = lay[size];
                moved.belongs = belonged[size];
            }
            return numbers[size];
        }
    }

    private static final class Costs {
        private static final int MOST_OF_RULE = 100;
        private static final int MOST_OF_WRONG = 1000;

        private int ofRule = 3;
        private int ofTest = 1;
        /** Of a wrong LETTER in each FOLDER. */
        private final int[] ofWrong = {2, 2, 2, 2, 2, 2, 2, 10};

        /** What it was; NONE if it can't be changed so. */
        int change(int what, int coins) {
            int folder = what - 10;
            int was = NONE;
            if (what == 0 && isWithin(coins, MOST_OF_RULE + 1)) {
                was = ofRule;
                ofRule = coins;
            } else if (what == 1 && isWithin(coins, MOST_OF_RULE + 1)) {
                was = ofTest;
                ofTest = coins;
            } else if (isWithin(folder, FOLDERS) && isWithin(coins, MOST_OF_WRONG + 1)) {
                was = ofWrong[folder];
                ofWrong[folder] = coins;
            }
            return was;
        }
    }

    /** Learns RULES from the MOVES, and remembers each that it ever learnt, as its NAME stays. */
    private static final class Learner {
        private final Costs costs;
        /** The one at i has the NAME FIRST_LEARNT_NAME + i. */
        private final ArrayList<Rule> known = new ArrayList<>();

        private boolean hasLearnt;
        private int costAtLast;
        private int costWithout;
        private int wentBy;
        private int newOnes;
        private int goneOnes;

        private final Rule[] earlier = new Rule[MOST_LEARNT_RULES];
        private int earlierSize;
        /** The LETTERS it goes by that no RULE fits yet. */
        private final Letter[] open = new Letter[MOST_LETTERS];
        private int openSize;

        /** Of the open LETTERS tallied last: how many, and how many BELONG in each FOLDER. */
        private int tallied;
        private final int[] belonging = new int[FOLDERS];
        /** What the open LETTERS that pass a CODE cost now: no RULE with that TEST saves more. */
        private final int[] atStake = new int[MARKS];

        private int bestSaving;
        private int bestFirst;
        private int bestSecond;
        private int bestFolder;

        Learner(Costs costs) {
            this.costs = costs;
        }

        void learnAnew(Mail mail, Row row) {
            putAside(row);
            open(mail, row);
            tally(0L);
            wentBy = openSize;
            costWithout = talliedCost(0);
            costAtLast = costWithout;
            for (int i = 0; i < MOST_LEARNT_RULES && findBest(); i++) {
                Rule best = nameRule(bestFirst, bestSecond, bestFolder);
                row.addLearnt(best);
                closeFitted(best);
                costAtLast -= bestSaving;
            }
            newOnes = missing(row.learnt, row.learntSize, earlier, earlierSize);
            goneOnes = missing(earlier, earlierSize, row.learnt, row.learntSize);
            hasLearnt = true;
        }

        private void putAside(Row row) {
            earlierSize = row.learntSize;
            for (int i = 0; i < earlierSize; i++) {
                earlier[i] = row.learnt[i];
            }
            row.learntSize = 0;
        }

        private void open(Mail mail, Row row) {
            openSize = 0;
            for (int i = 0; i < mail.size; i++) {
                Letter letter = mail.letters[i];
                if (letter.belongs != NONE && !row.anyHandFits(letter)) {
                    open[openSize] = letter;
                    openSize++;
                }
            }
        }

        private void closeFitted(Rule rule) {
            int kept = 0;
            for (int i = 0; i < openSize; i++) {
                Letter letter = open[i];
                if (!rule.fits(letter)) {
                    open[kept] = letter;
                    kept++;
                }
            }
            openSize = kept;
        }

        /**
         * Whether a RULE lowers the COST. Tried in the order in which the document prefers those
         * that save alike, so that only one that saves more comes instead of the best so far.
         */
        private boolean findBest() {
            bestSaving = 0;
            for (int code = 0; code < MARKS; code++) {
                tally(1L << code);
                atStake[code] = talliedCost(0);
                tryFolders(code, NONE, costs.ofRule + costs.ofTest);
            }
            int price = costs.ofRule + 2 * costs.ofTest;
            for (int first = 0; first < MARKS; first++) {
                for (int second = first + 1; second < MARKS; second++) {
                    if (Math.min(atStake[first], atStake[second]) - price > bestSaving) {
                        tally(1L << first | 1L << second);
                        tryFolders(first, second, price);
                    }
                }
            }
            return bestSaving > 0;
        }

        private void tally(long wanted) {
            tallied = 0;
            for (int folder = 0; folder < FOLDERS; folder++) {
                belonging[folder] = 0;
            }
            for (int i = 0; i < openSize; i++) {
                if (open[i].passesAll(wanted)) {
                    belonging[open[i].belongs]++;
                    tallied++;
                }
            }
        }

        /** What the tallied LETTERS cost if they go to a FOLDER. */
        private int talliedCost(int folder) {
            return costs.ofWrong[folder] * (tallied - belonging[folder]);
        }

        private void tryFolders(int first, int second, int price) {
            int now = talliedCost(0);
            for (int folder = 0; folder < FOLDERS; folder++) {
                int saving = now - talliedCost(folder) - price;
                if (saving > bestSaving) {
                    bestSaving = saving;
                    bestFirst = first;
                    bestSecond = second;
                    bestFolder = folder;
                }
            }
        }

        /** The RULE that tells this, with the NAME that it had or with a new one. */
        private Rule nameRule(int first, int second, int folder) {
            for (int i = 0; i < known.size(); i++) {
                if (known.get(i).tells(first, second, folder)) {
                    return known.get(i);
                }
            }
            int[] codes = second == NONE ? new int[] {first} : new int[] {first, second};
            Rule unknown = new Rule(FIRST_LEARNT_NAME + known.size(), codes, folder);
            known.add(unknown);
            return unknown;
        }

        /** How many of the first RULES are not among the second ones. */
        private static int missing(Rule[] ones, int size, Rule[] others, int othersSize) {
            int lacking = 0;
            for (int i = 0; i < size; i++) {
                boolean found = false;
                for (int j = 0; j < othersSize; j++) {
                    found |= ones[i] == others[j];
                }
                if (!found) {
                    lacking++;
                }
            }
            return lacking;
        }
    }
}
